theorem dX6_init_0 : decode cX6_init 0 = .ok (.aload_n 0, 1) := by decide +kernel
theorem dX6_init_1 : decode cX6_init 1 = .ok (.invokespecial 1, 3) := by decide +kernel
theorem dX6_init_4 : decode cX6_init 4 = .ok (.aload_n 0, 1) := by decide +kernel
theorem dX6_init_5 : decode cX6_init 5 = .ok (.iconst 5, 1) := by decide +kernel
theorem dX6_init_6 : decode cX6_init 6 = .ok (.newarray .int, 2) := by decide +kernel
theorem dX6_init_8 : decode cX6_init 8 = .ok (.putfield 7, 3) := by decide +kernel
theorem dX6_init_11 : decode cX6_init 11 = .ok (.aload_n 0, 1) := by decide +kernel
theorem dX6_init_12 : decode cX6_init 12 = .ok (.iconst 5, 1) := by decide +kernel
theorem dX6_init_13 : decode cX6_init 13 = .ok (.newarray .int, 2) := by decide +kernel
theorem dX6_init_15 : decode cX6_init 15 = .ok (.putfield 13, 3) := by decide +kernel
theorem dX6_init_18 : decode cX6_init 18 = .ok (.aload_n 0, 1) := by decide +kernel
theorem dX6_init_19 : decode cX6_init 19 = .ok (.iconst 5, 1) := by decide +kernel
theorem dX6_init_20 : decode cX6_init 20 = .ok (.newarray .int, 2) := by decide +kernel
theorem dX6_init_22 : decode cX6_init 22 = .ok (.putfield 16, 3) := by decide +kernel
theorem dX6_init_25 : decode cX6_init 25 = .ok (.aload_n 0, 1) := by decide +kernel
theorem dX6_init_26 : decode cX6_init 26 = .ok (.iconst 4, 1) := by decide +kernel
theorem dX6_init_27 : decode cX6_init 27 = .ok (.newarray .int, 2) := by decide +kernel
theorem dX6_init_29 : decode cX6_init 29 = .ok (.putfield 19, 3) := by decide +kernel
theorem dX6_init_32 : decode cX6_init 32 = .ok (.aload_n 0, 1) := by decide +kernel
theorem dX6_init_33 : decode cX6_init 33 = .ok (.bipush 18, 2) := by decide +kernel
theorem dX6_init_35 : decode cX6_init 35 = .ok (.newarray .int, 2) := by decide +kernel
theorem dX6_init_37 : decode cX6_init 37 = .ok (.putfield 22, 3) := by decide +kernel
theorem dX6_init_40 : decode cX6_init 40 = .ok (.aload_n 0, 1) := by decide +kernel
theorem dX6_init_41 : decode cX6_init 41 = .ok (.bipush 15, 2) := by decide +kernel
theorem dX6_init_43 : decode cX6_init 43 = .ok (.newarray .int, 2) := by decide +kernel
theorem dX6_init_45 : decode cX6_init 45 = .ok (.putfield 25, 3) := by decide +kernel
theorem dX6_init_48 : decode cX6_init 48 = .ok (.aload_n 0, 1) := by decide +kernel
theorem dX6_init_49 : decode cX6_init 49 = .ok (.iconst 4, 1) := by decide +kernel
theorem dX6_init_50 : decode cX6_init 50 = .ok (.newarray .int, 2) := by decide +kernel
theorem dX6_init_52 : decode cX6_init 52 = .ok (.putfield 28, 3) := by decide +kernel
theorem dX6_init_55 : decode cX6_init 55 = .ok (.aload_n 0, 1) := by decide +kernel
theorem dX6_init_56 : decode cX6_init 56 = .ok (.bipush 36, 2) := by decide +kernel
theorem dX6_init_58 : decode cX6_init 58 = .ok (.newarray .int, 2) := by decide +kernel
theorem dX6_init_60 : decode cX6_init 60 = .ok (.putfield 31, 3) := by decide +kernel
theorem dX6_init_63 : decode cX6_init 63 = .ok (.aload_n 0, 1) := by decide +kernel
theorem dX6_init_64 : decode cX6_init 64 = .ok (.bipush 126, 2) := by decide +kernel
theorem dX6_init_66 : decode cX6_init 66 = .ok (.newarray .int, 2) := by decide +kernel
theorem dX6_init_68 : decode cX6_init 68 = .ok (.putfield 34, 3) := by decide +kernel
theorem dX6_init_71 : decode cX6_init 71 = .ok (.aload_n 0, 1) := by decide +kernel
theorem dX6_init_72 : decode cX6_init 72 = .ok (.bipush 6, 2) := by decide +kernel
theorem dX6_init_74 : decode cX6_init 74 = .ok (.newarray .int, 2) := by decide +kernel
theorem dX6_init_76 : decode cX6_init 76 = .ok (.putfield 37, 3) := by decide +kernel
theorem dX6_init_79 : decode cX6_init 79 = .ok (.aload_n 0, 1) := by decide +kernel
theorem dX6_init_80 : decode cX6_init 80 = .ok (.bipush 6, 2) := by decide +kernel
theorem dX6_init_82 : decode cX6_init 82 = .ok (.newarray .int, 2) := by decide +kernel
theorem dX6_init_84 : decode cX6_init 84 = .ok (.putfield 40, 3) := by decide +kernel
theorem dX6_init_87 : decode cX6_init 87 = .ok (.aload_n 0, 1) := by decide +kernel
theorem dX6_init_88 : decode cX6_init 88 = .ok (.bipush 6, 2) := by decide +kernel
theorem dX6_init_90 : decode cX6_init 90 = .ok (.newarray .int, 2) := by decide +kernel
theorem dX6_init_92 : decode cX6_init 92 = .ok (.putfield 43, 3) := by decide +kernel
theorem dX6_init_95 : decode cX6_init 95 = .ok (.aload_n 0, 1) := by decide +kernel
theorem dX6_init_96 : decode cX6_init 96 = .ok (.bipush 6, 2) := by decide +kernel
theorem dX6_init_98 : decode cX6_init 98 = .ok (.newarray .int, 2) := by decide +kernel
theorem dX6_init_100 : decode cX6_init 100 = .ok (.putfield 46, 3) := by decide +kernel
theorem dX6_init_103 : decode cX6_init 103 = .ok (.aload_n 0, 1) := by decide +kernel
theorem dX6_init_104 : decode cX6_init 104 = .ok (.iconst 2, 1) := by decide +kernel
theorem dX6_init_105 : decode cX6_init 105 = .ok (.newarray .boolean, 2) := by decide +kernel
theorem dX6_init_107 : decode cX6_init 107 = .ok (.putfield 49, 3) := by decide +kernel
theorem dX6_init_110 : decode cX6_init 110 = .ok (.aload_n 0, 1) := by decide +kernel
theorem dX6_init_111 : decode cX6_init 111 = .ok (.bipush 18, 2) := by decide +kernel
theorem dX6_init_113 : decode cX6_init 113 = .ok (.newarray .int, 2) := by decide +kernel
theorem dX6_init_115 : decode cX6_init 115 = .ok (.putfield 53, 3) := by decide +kernel
theorem dX6_init_118 : decode cX6_init 118 = .ok (.aload_n 0, 1) := by decide +kernel
theorem dX6_init_119 : decode cX6_init 119 = .ok (.getfield 22, 3) := by decide +kernel
theorem dX6_init_122 : decode cX6_init 122 = .ok (.bipush 7, 2) := by decide +kernel
theorem dX6_init_124 : decode cX6_init 124 = .ok (.iconst 1, 1) := by decide +kernel
theorem dX6_init_125 : decode cX6_init 125 = .ok (.iastore, 1) := by decide +kernel
theorem dX6_init_126 : decode cX6_init 126 = .ok (.aload_n 0, 1) := by decide +kernel
theorem dX6_init_127 : decode cX6_init 127 = .ok (.getfield 22, 3) := by decide +kernel
theorem dX6_init_130 : decode cX6_init 130 = .ok (.bipush 8, 2) := by decide +kernel
theorem dX6_init_132 : decode cX6_init 132 = .ok (.iconst 1, 1) := by decide +kernel
theorem dX6_init_133 : decode cX6_init 133 = .ok (.iastore, 1) := by decide +kernel
theorem dX6_init_134 : decode cX6_init 134 = .ok (.return_, 1) := by decide +kernel
theorem dX6_in_0 : decode cX6_in 0 = .ok (.lload_n 0, 1) := by decide +kernel
theorem dX6_in_1 : decode cX6_in 1 = .ok (.lload_n 2, 1) := by decide +kernel
theorem dX6_in_2 : decode cX6_in 2 = .ok (.lcmp, 1) := by decide +kernel
theorem dX6_in_3 : decode cX6_in 3 = .ok (.ifCond .lt 14, 3) := by decide +kernel
theorem dX6_in_6 : decode cX6_in 6 = .ok (.lload_n 0, 1) := by decide +kernel
theorem dX6_in_7 : decode cX6_in 7 = .ok (.lload 4, 2) := by decide +kernel
theorem dX6_in_9 : decode cX6_in 9 = .ok (.lcmp, 1) := by decide +kernel
theorem dX6_in_10 : decode cX6_in 10 = .ok (.ifCond .gt 7, 3) := by decide +kernel
theorem dX6_in_13 : decode cX6_in 13 = .ok (.iconst 1, 1) := by decide +kernel
theorem dX6_in_14 : decode cX6_in 14 = .ok (.goto 4, 3) := by decide +kernel
theorem dX6_in_17 : decode cX6_in 17 = .ok (.iconst 0, 1) := by decide +kernel
theorem dX6_in_18 : decode cX6_in 18 = .ok (.ireturn, 1) := by decide +kernel
theorem dX6_has_0 : decode cX6_has 0 = .ok (.iload_n 0, 1) := by decide +kernel
theorem dX6_has_1 : decode cX6_has 1 = .ok (.iload_n 1, 1) := by decide +kernel
theorem dX6_has_2 : decode cX6_has 2 = .ok (.ishr, 1) := by decide +kernel
theorem dX6_has_3 : decode cX6_has 3 = .ok (.iconst 1, 1) := by decide +kernel
theorem dX6_has_4 : decode cX6_has 4 = .ok (.iand, 1) := by decide +kernel
theorem dX6_has_5 : decode cX6_has 5 = .ok (.iconst 1, 1) := by decide +kernel
theorem dX6_has_6 : decode cX6_has 6 = .ok (.if_icmp .ne 7, 3) := by decide +kernel
theorem dX6_has_9 : decode cX6_has 9 = .ok (.iconst 1, 1) := by decide +kernel
theorem dX6_has_10 : decode cX6_has 10 = .ok (.goto 4, 3) := by decide +kernel
theorem dX6_has_13 : decode cX6_has 13 = .ok (.iconst 0, 1) := by decide +kernel
theorem dX6_has_14 : decode cX6_has 14 = .ok (.ireturn, 1) := by decide +kernel
theorem dX6_ones_0 : decode cX6_ones 0 = .ok (.iconst 0, 1) := by decide +kernel
theorem dX6_ones_1 : decode cX6_ones 1 = .ok (.istore_n 1, 1) := by decide +kernel
theorem dX6_ones_2 : decode cX6_ones 2 = .ok (.iconst 0, 1) := by decide +kernel
theorem dX6_ones_3 : decode cX6_ones 3 = .ok (.istore_n 2, 1) := by decide +kernel
theorem dX6_ones_4 : decode cX6_ones 4 = .ok (.iload_n 2, 1) := by decide +kernel
theorem dX6_ones_5 : decode cX6_ones 5 = .ok (.bipush 20, 2) := by decide +kernel
theorem dX6_ones_7 : decode cX6_ones 7 = .ok (.if_icmp .ge 17, 3) := by decide +kernel
theorem dX6_ones_10 : decode cX6_ones 10 = .ok (.iload_n 1, 1) := by decide +kernel
theorem dX6_ones_11 : decode cX6_ones 11 = .ok (.iload_n 0, 1) := by decide +kernel
theorem dX6_ones_12 : decode cX6_ones 12 = .ok (.iload_n 2, 1) := by decide +kernel
theorem dX6_ones_13 : decode cX6_ones 13 = .ok (.ishr, 1) := by decide +kernel
theorem dX6_ones_14 : decode cX6_ones 14 = .ok (.iconst 1, 1) := by decide +kernel
theorem dX6_ones_15 : decode cX6_ones 15 = .ok (.iand, 1) := by decide +kernel
theorem dX6_ones_16 : decode cX6_ones 16 = .ok (.iadd, 1) := by decide +kernel
theorem dX6_ones_17 : decode cX6_ones 17 = .ok (.istore_n 1, 1) := by decide +kernel
theorem dX6_ones_18 : decode cX6_ones 18 = .ok (.iinc 2 1, 3) := by decide +kernel
theorem dX6_ones_21 : decode cX6_ones 21 = .ok (.goto (-17), 3) := by decide +kernel
theorem dX6_ones_24 : decode cX6_ones 24 = .ok (.iload_n 1, 1) := by decide +kernel
theorem dX6_ones_25 : decode cX6_ones 25 = .ok (.ireturn, 1) := by decide +kernel
theorem dX6_write_0 : decode cX6_write 0 = .ok (.iload_n 1, 1) := by decide +kernel
theorem dX6_write_1 : decode cX6_write 1 = .ok (.i2l, 1) := by decide +kernel
theorem dX6_write_2 : decode cX6_write 2 = .ok (.lconst 0, 1) := by decide +kernel
theorem dX6_write_3 : decode cX6_write 3 = .ok (.ldc2_w 56, 3) := by decide +kernel
theorem dX6_write_6 : decode cX6_write 6 = .ok (.invokestatic 58, 3) := by decide +kernel
theorem dX6_write_9 : decode cX6_write 9 = .ok (.ifCond .ne 6, 3) := by decide +kernel
theorem dX6_write_12 : decode cX6_write 12 = .ok (.bipush (-2), 2) := by decide +kernel
theorem dX6_write_14 : decode cX6_write 14 = .ok (.ireturn, 1) := by decide +kernel
theorem dX6_write_15 : decode cX6_write 15 = .ok (.aload_n 0, 1) := by decide +kernel
theorem dX6_write_16 : decode cX6_write 16 = .ok (.getfield 62, 3) := by decide +kernel
theorem dX6_write_19 : decode cX6_write 19 = .ok (.bipush 36, 2) := by decide +kernel
theorem dX6_write_21 : decode cX6_write 21 = .ok (.if_icmp .ne 6, 3) := by decide +kernel
theorem dX6_write_24 : decode cX6_write 24 = .ok (.bipush (-4), 2) := by decide +kernel
theorem dX6_write_26 : decode cX6_write 26 = .ok (.ireturn, 1) := by decide +kernel
theorem dX6_write_27 : decode cX6_write 27 = .ok (.aload_n 0, 1) := by decide +kernel
theorem dX6_write_28 : decode cX6_write 28 = .ok (.getfield 31, 3) := by decide +kernel
theorem dX6_write_31 : decode cX6_write 31 = .ok (.aload_n 0, 1) := by decide +kernel
theorem dX6_write_32 : decode cX6_write 32 = .ok (.getfield 62, 3) := by decide +kernel
theorem dX6_write_35 : decode cX6_write 35 = .ok (.iload_n 1, 1) := by decide +kernel
theorem dX6_write_36 : decode cX6_write 36 = .ok (.iastore, 1) := by decide +kernel
theorem dX6_write_37 : decode cX6_write 37 = .ok (.aload_n 0, 1) := by decide +kernel
theorem dX6_write_38 : decode cX6_write 38 = .ok (.dup, 1) := by decide +kernel
theorem dX6_write_39 : decode cX6_write 39 = .ok (.getfield 62, 3) := by decide +kernel
theorem dX6_write_42 : decode cX6_write 42 = .ok (.iconst 1, 1) := by decide +kernel
theorem dX6_write_43 : decode cX6_write 43 = .ok (.iadd, 1) := by decide +kernel
theorem dX6_write_44 : decode cX6_write 44 = .ok (.putfield 62, 3) := by decide +kernel
theorem dX6_write_47 : decode cX6_write 47 = .ok (.aload_n 0, 1) := by decide +kernel
theorem dX6_write_48 : decode cX6_write 48 = .ok (.getfield 62, 3) := by decide +kernel
theorem dX6_write_51 : decode cX6_write 51 = .ok (.ireturn, 1) := by decide +kernel
theorem dX6_wipe_0 : decode cX6_wipe 0 = .ok (.aload_n 0, 1) := by decide +kernel
theorem dX6_wipe_1 : decode cX6_wipe 1 = .ok (.getfield 62, 3) := by decide +kernel
theorem dX6_wipe_4 : decode cX6_wipe 4 = .ok (.istore_n 1, 1) := by decide +kernel
theorem dX6_wipe_5 : decode cX6_wipe 5 = .ok (.aload_n 0, 1) := by decide +kernel
theorem dX6_wipe_6 : decode cX6_wipe 6 = .ok (.iconst 0, 1) := by decide +kernel
theorem dX6_wipe_7 : decode cX6_wipe 7 = .ok (.putfield 62, 3) := by decide +kernel
theorem dX6_wipe_10 : decode cX6_wipe 10 = .ok (.iload_n 1, 1) := by decide +kernel
theorem dX6_wipe_11 : decode cX6_wipe 11 = .ok (.ireturn, 1) := by decide +kernel
theorem dX6_figure_0 : decode cX6_figure 0 = .ok (.aload_n 0, 1) := by decide +kernel
theorem dX6_figure_1 : decode cX6_figure 1 = .ok (.getfield 66, 3) := by decide +kernel
theorem dX6_figure_4 : decode cX6_figure 4 = .ok (.bipush (-9), 2) := by decide +kernel
theorem dX6_figure_6 : decode cX6_figure 6 = .ok (.if_icmp .ne 29, 3) := by decide +kernel
theorem dX6_figure_9 : decode cX6_figure 9 = .ok (.aload_n 0, 1) := by decide +kernel
theorem dX6_figure_10 : decode cX6_figure 10 = .ok (.getfield 69, 3) := by decide +kernel
theorem dX6_figure_13 : decode cX6_figure 13 = .ok (.aload_n 0, 1) := by decide +kernel
theorem dX6_figure_14 : decode cX6_figure 14 = .ok (.getfield 62, 3) := by decide +kernel
theorem dX6_figure_17 : decode cX6_figure 17 = .ok (.if_icmp .ge 18, 3) := by decide +kernel
theorem dX6_figure_20 : decode cX6_figure 20 = .ok (.aload_n 0, 1) := by decide +kernel
theorem dX6_figure_21 : decode cX6_figure 21 = .ok (.getfield 31, 3) := by decide +kernel
theorem dX6_figure_24 : decode cX6_figure 24 = .ok (.aload_n 0, 1) := by decide +kernel
theorem dX6_figure_25 : decode cX6_figure 25 = .ok (.getfield 69, 3) := by decide +kernel
theorem dX6_figure_28 : decode cX6_figure 28 = .ok (.iaload, 1) := by decide +kernel
theorem dX6_figure_29 : decode cX6_figure 29 = .ok (.bipush 48, 2) := by decide +kernel
theorem dX6_figure_31 : decode cX6_figure 31 = .ok (.isub, 1) := by decide +kernel
theorem dX6_figure_32 : decode cX6_figure 32 = .ok (.goto 5, 3) := by decide +kernel
theorem dX6_figure_35 : decode cX6_figure 35 = .ok (.bipush (-9), 2) := by decide +kernel
theorem dX6_figure_37 : decode cX6_figure 37 = .ok (.istore_n 3, 1) := by decide +kernel
theorem dX6_figure_38 : decode cX6_figure 38 = .ok (.iload_n 3, 1) := by decide +kernel
theorem dX6_figure_39 : decode cX6_figure 39 = .ok (.i2l, 1) := by decide +kernel
theorem dX6_figure_40 : decode cX6_figure 40 = .ok (.iload_n 1, 1) := by decide +kernel
theorem dX6_figure_41 : decode cX6_figure 41 = .ok (.i2l, 1) := by decide +kernel
theorem dX6_figure_42 : decode cX6_figure 42 = .ok (.iload_n 2, 1) := by decide +kernel
theorem dX6_figure_43 : decode cX6_figure 43 = .ok (.i2l, 1) := by decide +kernel
theorem dX6_figure_44 : decode cX6_figure 44 = .ok (.invokestatic 58, 3) := by decide +kernel
theorem dX6_figure_47 : decode cX6_figure 47 = .ok (.ifCond .ne 29, 3) := by decide +kernel
theorem dX6_figure_50 : decode cX6_figure 50 = .ok (.aload_n 0, 1) := by decide +kernel
theorem dX6_figure_51 : decode cX6_figure 51 = .ok (.aload_n 0, 1) := by decide +kernel
theorem dX6_figure_52 : decode cX6_figure 52 = .ok (.getfield 66, 3) := by decide +kernel
theorem dX6_figure_55 : decode cX6_figure 55 = .ok (.bipush (-9), 2) := by decide +kernel
theorem dX6_figure_57 : decode cX6_figure 57 = .ok (.if_icmp .ne 10, 3) := by decide +kernel
theorem dX6_figure_60 : decode cX6_figure 60 = .ok (.aload_n 0, 1) := by decide +kernel
theorem dX6_figure_61 : decode cX6_figure 61 = .ok (.getfield 69, 3) := by decide +kernel
theorem dX6_figure_64 : decode cX6_figure 64 = .ok (.goto 7, 3) := by decide +kernel
theorem dX6_figure_67 : decode cX6_figure 67 = .ok (.aload_n 0, 1) := by decide +kernel
theorem dX6_figure_68 : decode cX6_figure 68 = .ok (.getfield 66, 3) := by decide +kernel
theorem dX6_figure_71 : decode cX6_figure 71 = .ok (.putfield 66, 3) := by decide +kernel
theorem dX6_figure_74 : decode cX6_figure 74 = .ok (.iload_n 1, 1) := by decide +kernel
theorem dX6_figure_75 : decode cX6_figure 75 = .ok (.ireturn, 1) := by decide +kernel
theorem dX6_figure_76 : decode cX6_figure 76 = .ok (.aload_n 0, 1) := by decide +kernel
theorem dX6_figure_77 : decode cX6_figure 77 = .ok (.dup, 1) := by decide +kernel
theorem dX6_figure_78 : decode cX6_figure 78 = .ok (.getfield 69, 3) := by decide +kernel
theorem dX6_figure_81 : decode cX6_figure 81 = .ok (.iconst 1, 1) := by decide +kernel
theorem dX6_figure_82 : decode cX6_figure 82 = .ok (.iadd, 1) := by decide +kernel
theorem dX6_figure_83 : decode cX6_figure 83 = .ok (.putfield 69, 3) := by decide +kernel
theorem dX6_figure_86 : decode cX6_figure 86 = .ok (.iload_n 3, 1) := by decide +kernel
theorem dX6_figure_87 : decode cX6_figure 87 = .ok (.ireturn, 1) := by decide +kernel
theorem dX6_readText_0 : decode cX6_readText 0 = .ok (.aload_n 0, 1) := by decide +kernel
theorem dX6_readText_1 : decode cX6_readText 1 = .ok (.iconst 0, 1) := by decide +kernel
theorem dX6_readText_2 : decode cX6_readText 2 = .ok (.putfield 69, 3) := by decide +kernel
theorem dX6_readText_5 : decode cX6_readText 5 = .ok (.aload_n 0, 1) := by decide +kernel
theorem dX6_readText_6 : decode cX6_readText 6 = .ok (.bipush (-9), 2) := by decide +kernel
theorem dX6_readText_8 : decode cX6_readText 8 = .ok (.putfield 66, 3) := by decide +kernel
theorem dX6_readText_11 : decode cX6_readText 11 = .ok (.aload_n 0, 1) := by decide +kernel
theorem dX6_readText_12 : decode cX6_readText 12 = .ok (.iconst 0, 1) := by decide +kernel
theorem dX6_readText_13 : decode cX6_readText 13 = .ok (.putfield 72, 3) := by decide +kernel
theorem dX6_readText_16 : decode cX6_readText 16 = .ok (.aload_n 0, 1) := by decide +kernel
theorem dX6_readText_17 : decode cX6_readText 17 = .ok (.iconst 0, 1) := by decide +kernel
theorem dX6_readText_18 : decode cX6_readText 18 = .ok (.putfield 75, 3) := by decide +kernel
theorem dX6_readText_21 : decode cX6_readText 21 = .ok (.aload_n 0, 1) := by decide +kernel
theorem dX6_readText_22 : decode cX6_readText 22 = .ok (.getfield 62, 3) := by decide +kernel
theorem dX6_readText_25 : decode cX6_readText 25 = .ok (.ifCond .eq 14, 3) := by decide +kernel
theorem dX6_readText_28 : decode cX6_readText 28 = .ok (.aload_n 0, 1) := by decide +kernel
theorem dX6_readText_29 : decode cX6_readText 29 = .ok (.getfield 31, 3) := by decide +kernel
theorem dX6_readText_32 : decode cX6_readText 32 = .ok (.iconst 0, 1) := by decide +kernel
theorem dX6_readText_33 : decode cX6_readText 33 = .ok (.iaload, 1) := by decide +kernel
theorem dX6_readText_34 : decode cX6_readText 34 = .ok (.bipush 69, 2) := by decide +kernel
theorem dX6_readText_36 : decode cX6_readText 36 = .ok (.if_icmp .eq 5, 3) := by decide +kernel
theorem dX6_readText_39 : decode cX6_readText 39 = .ok (.iconst 0, 1) := by decide +kernel
theorem dX6_readText_40 : decode cX6_readText 40 = .ok (.ireturn, 1) := by decide +kernel
theorem dX6_readText_41 : decode cX6_readText 41 = .ok (.aload_n 0, 1) := by decide +kernel
theorem dX6_readText_42 : decode cX6_readText 42 = .ok (.iconst 1, 1) := by decide +kernel
theorem dX6_readText_43 : decode cX6_readText 43 = .ok (.putfield 69, 3) := by decide +kernel
theorem dX6_readText_46 : decode cX6_readText 46 = .ok (.aload_n 0, 1) := by decide +kernel
theorem dX6_readText_47 : decode cX6_readText 47 = .ok (.getfield 66, 3) := by decide +kernel
theorem dX6_readText_50 : decode cX6_readText 50 = .ok (.bipush (-9), 2) := by decide +kernel
theorem dX6_readText_52 : decode cX6_readText 52 = .ok (.if_icmp .ne 188, 3) := by decide +kernel
theorem dX6_readText_55 : decode cX6_readText 55 = .ok (.aload_n 0, 1) := by decide +kernel
theorem dX6_readText_56 : decode cX6_readText 56 = .ok (.getfield 69, 3) := by decide +kernel
theorem dX6_readText_59 : decode cX6_readText 59 = .ok (.aload_n 0, 1) := by decide +kernel
theorem dX6_readText_60 : decode cX6_readText 60 = .ok (.getfield 62, 3) := by decide +kernel
theorem dX6_readText_63 : decode cX6_readText 63 = .ok (.if_icmp .ge 177, 3) := by decide +kernel
theorem dX6_readText_66 : decode cX6_readText 66 = .ok (.aload_n 0, 1) := by decide +kernel
theorem dX6_readText_67 : decode cX6_readText 67 = .ok (.getfield 31, 3) := by decide +kernel
theorem dX6_readText_70 : decode cX6_readText 70 = .ok (.aload_n 0, 1) := by decide +kernel
theorem dX6_readText_71 : decode cX6_readText 71 = .ok (.getfield 69, 3) := by decide +kernel
theorem dX6_readText_74 : decode cX6_readText 74 = .ok (.iaload, 1) := by decide +kernel
theorem dX6_readText_75 : decode cX6_readText 75 = .ok (.bipush 82, 2) := by decide +kernel
theorem dX6_readText_77 : decode cX6_readText 77 = .ok (.if_icmp .ne 91, 3) := by decide +kernel
theorem dX6_readText_80 : decode cX6_readText 80 = .ok (.aload_n 0, 1) := by decide +kernel
theorem dX6_readText_81 : decode cX6_readText 81 = .ok (.getfield 72, 3) := by decide +kernel
theorem dX6_readText_84 : decode cX6_readText 84 = .ok (.iconst 5, 1) := by decide +kernel
theorem dX6_readText_85 : decode cX6_readText 85 = .ok (.if_icmp .ge 83, 3) := by decide +kernel
theorem dX6_readText_88 : decode cX6_readText 88 = .ok (.aload_n 0, 1) := by decide +kernel
theorem dX6_readText_89 : decode cX6_readText 89 = .ok (.dup, 1) := by decide +kernel
theorem dX6_readText_90 : decode cX6_readText 90 = .ok (.getfield 69, 3) := by decide +kernel
theorem dX6_readText_93 : decode cX6_readText 93 = .ok (.iconst 1, 1) := by decide +kernel
theorem dX6_readText_94 : decode cX6_readText 94 = .ok (.iadd, 1) := by decide +kernel
theorem dX6_readText_95 : decode cX6_readText 95 = .ok (.putfield 69, 3) := by decide +kernel
theorem dX6_readText_98 : decode cX6_readText 98 = .ok (.aload_n 0, 1) := by decide +kernel
theorem dX6_readText_99 : decode cX6_readText 99 = .ok (.getfield 25, 3) := by decide +kernel
theorem dX6_readText_102 : decode cX6_readText 102 = .ok (.iconst 3, 1) := by decide +kernel
theorem dX6_readText_103 : decode cX6_readText 103 = .ok (.aload_n 0, 1) := by decide +kernel
theorem dX6_readText_104 : decode cX6_readText 104 = .ok (.getfield 72, 3) := by decide +kernel
theorem dX6_readText_107 : decode cX6_readText 107 = .ok (.imul, 1) := by decide +kernel
theorem dX6_readText_108 : decode cX6_readText 108 = .ok (.aload_n 0, 1) := by decide +kernel
theorem dX6_readText_109 : decode cX6_readText 109 = .ok (.iconst 0, 1) := by decide +kernel
theorem dX6_readText_110 : decode cX6_readText 110 = .ok (.bipush 9, 2) := by decide +kernel
theorem dX6_readText_112 : decode cX6_readText 112 = .ok (.invokevirtual 78, 3) := by decide +kernel
theorem dX6_readText_115 : decode cX6_readText 115 = .ok (.iastore, 1) := by decide +kernel
theorem dX6_readText_116 : decode cX6_readText 116 = .ok (.aload_n 0, 1) := by decide +kernel
theorem dX6_readText_117 : decode cX6_readText 117 = .ok (.getfield 25, 3) := by decide +kernel
theorem dX6_readText_120 : decode cX6_readText 120 = .ok (.iconst 3, 1) := by decide +kernel
theorem dX6_readText_121 : decode cX6_readText 121 = .ok (.aload_n 0, 1) := by decide +kernel
theorem dX6_readText_122 : decode cX6_readText 122 = .ok (.getfield 72, 3) := by decide +kernel
theorem dX6_readText_125 : decode cX6_readText 125 = .ok (.imul, 1) := by decide +kernel
theorem dX6_readText_126 : decode cX6_readText 126 = .ok (.iconst 1, 1) := by decide +kernel
theorem dX6_readText_127 : decode cX6_readText 127 = .ok (.iadd, 1) := by decide +kernel
theorem dX6_readText_128 : decode cX6_readText 128 = .ok (.aload_n 0, 1) := by decide +kernel
theorem dX6_readText_129 : decode cX6_readText 129 = .ok (.iconst 1, 1) := by decide +kernel
theorem dX6_readText_130 : decode cX6_readText 130 = .ok (.bipush 9, 2) := by decide +kernel
theorem dX6_readText_132 : decode cX6_readText 132 = .ok (.invokevirtual 78, 3) := by decide +kernel
theorem dX6_readText_135 : decode cX6_readText 135 = .ok (.iastore, 1) := by decide +kernel
theorem dX6_readText_136 : decode cX6_readText 136 = .ok (.aload_n 0, 1) := by decide +kernel
theorem dX6_readText_137 : decode cX6_readText 137 = .ok (.getfield 25, 3) := by decide +kernel
theorem dX6_readText_140 : decode cX6_readText 140 = .ok (.iconst 3, 1) := by decide +kernel
theorem dX6_readText_141 : decode cX6_readText 141 = .ok (.aload_n 0, 1) := by decide +kernel
theorem dX6_readText_142 : decode cX6_readText 142 = .ok (.getfield 72, 3) := by decide +kernel
theorem dX6_readText_145 : decode cX6_readText 145 = .ok (.imul, 1) := by decide +kernel
theorem dX6_readText_146 : decode cX6_readText 146 = .ok (.iconst 2, 1) := by decide +kernel
theorem dX6_readText_147 : decode cX6_readText 147 = .ok (.iadd, 1) := by decide +kernel
theorem dX6_readText_148 : decode cX6_readText 148 = .ok (.aload_n 0, 1) := by decide +kernel
theorem dX6_readText_149 : decode cX6_readText 149 = .ok (.iconst 0, 1) := by decide +kernel
theorem dX6_readText_150 : decode cX6_readText 150 = .ok (.iconst 3, 1) := by decide +kernel
theorem dX6_readText_151 : decode cX6_readText 151 = .ok (.invokevirtual 78, 3) := by decide +kernel
theorem dX6_readText_154 : decode cX6_readText 154 = .ok (.iastore, 1) := by decide +kernel
theorem dX6_readText_155 : decode cX6_readText 155 = .ok (.aload_n 0, 1) := by decide +kernel
theorem dX6_readText_156 : decode cX6_readText 156 = .ok (.dup, 1) := by decide +kernel
theorem dX6_readText_157 : decode cX6_readText 157 = .ok (.getfield 72, 3) := by decide +kernel
theorem dX6_readText_160 : decode cX6_readText 160 = .ok (.iconst 1, 1) := by decide +kernel
theorem dX6_readText_161 : decode cX6_readText 161 = .ok (.iadd, 1) := by decide +kernel
theorem dX6_readText_162 : decode cX6_readText 162 = .ok (.putfield 72, 3) := by decide +kernel
theorem dX6_readText_165 : decode cX6_readText 165 = .ok (.goto (-119), 3) := by decide +kernel
theorem dX6_readText_168 : decode cX6_readText 168 = .ok (.aload_n 0, 1) := by decide +kernel
theorem dX6_readText_169 : decode cX6_readText 169 = .ok (.getfield 31, 3) := by decide +kernel
theorem dX6_readText_172 : decode cX6_readText 172 = .ok (.aload_n 0, 1) := by decide +kernel
theorem dX6_readText_173 : decode cX6_readText 173 = .ok (.getfield 69, 3) := by decide +kernel
theorem dX6_readText_176 : decode cX6_readText 176 = .ok (.iaload, 1) := by decide +kernel
theorem dX6_readText_177 : decode cX6_readText 177 = .ok (.bipush 83, 2) := by decide +kernel
theorem dX6_readText_179 : decode cX6_readText 179 = .ok (.if_icmp .ne 50, 3) := by decide +kernel
theorem dX6_readText_182 : decode cX6_readText 182 = .ok (.aload_n 0, 1) := by decide +kernel
theorem dX6_readText_183 : decode cX6_readText 183 = .ok (.getfield 75, 3) := by decide +kernel
theorem dX6_readText_186 : decode cX6_readText 186 = .ok (.iconst 4, 1) := by decide +kernel
theorem dX6_readText_187 : decode cX6_readText 187 = .ok (.if_icmp .ge 42, 3) := by decide +kernel
theorem dX6_readText_190 : decode cX6_readText 190 = .ok (.aload_n 0, 1) := by decide +kernel
theorem dX6_readText_191 : decode cX6_readText 191 = .ok (.dup, 1) := by decide +kernel
theorem dX6_readText_192 : decode cX6_readText 192 = .ok (.getfield 69, 3) := by decide +kernel
theorem dX6_readText_195 : decode cX6_readText 195 = .ok (.iconst 1, 1) := by decide +kernel
theorem dX6_readText_196 : decode cX6_readText 196 = .ok (.iadd, 1) := by decide +kernel
theorem dX6_readText_197 : decode cX6_readText 197 = .ok (.putfield 69, 3) := by decide +kernel
theorem dX6_readText_200 : decode cX6_readText 200 = .ok (.aload_n 0, 1) := by decide +kernel
theorem dX6_readText_201 : decode cX6_readText 201 = .ok (.getfield 28, 3) := by decide +kernel
theorem dX6_readText_204 : decode cX6_readText 204 = .ok (.aload_n 0, 1) := by decide +kernel
theorem dX6_readText_205 : decode cX6_readText 205 = .ok (.getfield 75, 3) := by decide +kernel
theorem dX6_readText_208 : decode cX6_readText 208 = .ok (.aload_n 0, 1) := by decide +kernel
theorem dX6_readText_209 : decode cX6_readText 209 = .ok (.iconst 0, 1) := by decide +kernel
theorem dX6_readText_210 : decode cX6_readText 210 = .ok (.bipush 9, 2) := by decide +kernel
theorem dX6_readText_212 : decode cX6_readText 212 = .ok (.invokevirtual 78, 3) := by decide +kernel
theorem dX6_readText_215 : decode cX6_readText 215 = .ok (.iastore, 1) := by decide +kernel
theorem dX6_readText_216 : decode cX6_readText 216 = .ok (.aload_n 0, 1) := by decide +kernel
theorem dX6_readText_217 : decode cX6_readText 217 = .ok (.dup, 1) := by decide +kernel
theorem dX6_readText_218 : decode cX6_readText 218 = .ok (.getfield 75, 3) := by decide +kernel
theorem dX6_readText_221 : decode cX6_readText 221 = .ok (.iconst 1, 1) := by decide +kernel
theorem dX6_readText_222 : decode cX6_readText 222 = .ok (.iadd, 1) := by decide +kernel
theorem dX6_readText_223 : decode cX6_readText 223 = .ok (.putfield 75, 3) := by decide +kernel
theorem dX6_readText_226 : decode cX6_readText 226 = .ok (.goto (-180), 3) := by decide +kernel
theorem dX6_readText_229 : decode cX6_readText 229 = .ok (.aload_n 0, 1) := by decide +kernel
theorem dX6_readText_230 : decode cX6_readText 230 = .ok (.aload_n 0, 1) := by decide +kernel
theorem dX6_readText_231 : decode cX6_readText 231 = .ok (.getfield 69, 3) := by decide +kernel
theorem dX6_readText_234 : decode cX6_readText 234 = .ok (.putfield 66, 3) := by decide +kernel
theorem dX6_readText_237 : decode cX6_readText 237 = .ok (.goto (-191), 3) := by decide +kernel
theorem dX6_readText_240 : decode cX6_readText 240 = .ok (.aload_n 0, 1) := by decide +kernel
theorem dX6_readText_241 : decode cX6_readText 241 = .ok (.getfield 66, 3) := by decide +kernel
theorem dX6_readText_244 : decode cX6_readText 244 = .ok (.ireturn, 1) := by decide +kernel
theorem dX6_fault_0 : decode cX6_fault 0 = .ok (.aload_n 0, 1) := by decide +kernel
theorem dX6_fault_1 : decode cX6_fault 1 = .ok (.invokevirtual 82, 3) := by decide +kernel
theorem dX6_fault_4 : decode cX6_fault 4 = .ok (.ireturn, 1) := by decide +kernel
theorem dX6_room_0 : decode cX6_room 0 = .ok (.aload_n 0, 1) := by decide +kernel
theorem dX6_room_1 : decode cX6_room 1 = .ok (.invokevirtual 82, 3) := by decide +kernel
theorem dX6_room_4 : decode cX6_room 4 = .ok (.bipush (-9), 2) := by decide +kernel
theorem dX6_room_6 : decode cX6_room 6 = .ok (.if_icmp .eq 6, 3) := by decide +kernel
theorem dX6_room_9 : decode cX6_room 9 = .ok (.bipush (-3), 2) := by decide +kernel
theorem dX6_room_11 : decode cX6_room 11 = .ok (.ireturn, 1) := by decide +kernel
theorem dX6_room_12 : decode cX6_room 12 = .ok (.aload_n 0, 1) := by decide +kernel
theorem dX6_room_13 : decode cX6_room 13 = .ok (.aload_n 0, 1) := by decide +kernel
theorem dX6_room_14 : decode cX6_room 14 = .ok (.getfield 72, 3) := by decide +kernel
theorem dX6_room_17 : decode cX6_room 17 = .ok (.putfield 86, 3) := by decide +kernel
theorem dX6_room_20 : decode cX6_room 20 = .ok (.aload_n 0, 1) := by decide +kernel
theorem dX6_room_21 : decode cX6_room 21 = .ok (.aload_n 0, 1) := by decide +kernel
theorem dX6_room_22 : decode cX6_room 22 = .ok (.getfield 75, 3) := by decide +kernel
theorem dX6_room_25 : decode cX6_room 25 = .ok (.putfield 89, 3) := by decide +kernel
theorem dX6_room_28 : decode cX6_room 28 = .ok (.iconst 0, 1) := by decide +kernel
theorem dX6_room_29 : decode cX6_room 29 = .ok (.istore_n 1, 1) := by decide +kernel
theorem dX6_room_30 : decode cX6_room 30 = .ok (.iload_n 1, 1) := by decide +kernel
theorem dX6_room_31 : decode cX6_room 31 = .ok (.bipush 9, 2) := by decide +kernel
theorem dX6_room_33 : decode cX6_room 33 = .ok (.if_icmp .ge 26, 3) := by decide +kernel
theorem dX6_room_36 : decode cX6_room 36 = .ok (.aload_n 0, 1) := by decide +kernel
theorem dX6_room_37 : decode cX6_room 37 = .ok (.getfield 22, 3) := by decide +kernel
theorem dX6_room_40 : decode cX6_room 40 = .ok (.iload_n 1, 1) := by decide +kernel
theorem dX6_room_41 : decode cX6_room 41 = .ok (.iload_n 1, 1) := by decide +kernel
theorem dX6_room_42 : decode cX6_room 42 = .ok (.bipush 7, 2) := by decide +kernel
theorem dX6_room_44 : decode cX6_room 44 = .ok (.if_icmp .ge 7, 3) := by decide +kernel
theorem dX6_room_47 : decode cX6_room 47 = .ok (.iconst 0, 1) := by decide +kernel
theorem dX6_room_48 : decode cX6_room 48 = .ok (.goto 4, 3) := by decide +kernel
theorem dX6_room_51 : decode cX6_room 51 = .ok (.iconst 1, 1) := by decide +kernel
theorem dX6_room_52 : decode cX6_room 52 = .ok (.iastore, 1) := by decide +kernel
theorem dX6_room_53 : decode cX6_room 53 = .ok (.iinc 1 1, 3) := by decide +kernel
theorem dX6_room_56 : decode cX6_room 56 = .ok (.goto (-26), 3) := by decide +kernel
theorem dX6_room_59 : decode cX6_room 59 = .ok (.iconst 0, 1) := by decide +kernel
theorem dX6_room_60 : decode cX6_room 60 = .ok (.istore_n 1, 1) := by decide +kernel
theorem dX6_room_61 : decode cX6_room 61 = .ok (.iload_n 1, 1) := by decide +kernel
theorem dX6_room_62 : decode cX6_room 62 = .ok (.aload_n 0, 1) := by decide +kernel
theorem dX6_room_63 : decode cX6_room 63 = .ok (.getfield 86, 3) := by decide +kernel
theorem dX6_room_66 : decode cX6_room 66 = .ok (.if_icmp .ge 55, 3) := by decide +kernel
theorem dX6_room_69 : decode cX6_room 69 = .ok (.aload_n 0, 1) := by decide +kernel
theorem dX6_room_70 : decode cX6_room 70 = .ok (.getfield 7, 3) := by decide +kernel
theorem dX6_room_73 : decode cX6_room 73 = .ok (.iload_n 1, 1) := by decide +kernel
theorem dX6_room_74 : decode cX6_room 74 = .ok (.aload_n 0, 1) := by decide +kernel
theorem dX6_room_75 : decode cX6_room 75 = .ok (.getfield 25, 3) := by decide +kernel
theorem dX6_room_78 : decode cX6_room 78 = .ok (.iconst 3, 1) := by decide +kernel
theorem dX6_room_79 : decode cX6_room 79 = .ok (.iload_n 1, 1) := by decide +kernel
theorem dX6_room_80 : decode cX6_room 80 = .ok (.imul, 1) := by decide +kernel
theorem dX6_room_81 : decode cX6_room 81 = .ok (.iaload, 1) := by decide +kernel
theorem dX6_room_82 : decode cX6_room 82 = .ok (.iastore, 1) := by decide +kernel
theorem dX6_room_83 : decode cX6_room 83 = .ok (.aload_n 0, 1) := by decide +kernel
theorem dX6_room_84 : decode cX6_room 84 = .ok (.getfield 13, 3) := by decide +kernel
theorem dX6_room_87 : decode cX6_room 87 = .ok (.iload_n 1, 1) := by decide +kernel
theorem dX6_room_88 : decode cX6_room 88 = .ok (.aload_n 0, 1) := by decide +kernel
theorem dX6_room_89 : decode cX6_room 89 = .ok (.getfield 25, 3) := by decide +kernel
theorem dX6_room_92 : decode cX6_room 92 = .ok (.iconst 3, 1) := by decide +kernel
theorem dX6_room_93 : decode cX6_room 93 = .ok (.iload_n 1, 1) := by decide +kernel
theorem dX6_room_94 : decode cX6_room 94 = .ok (.imul, 1) := by decide +kernel
theorem dX6_room_95 : decode cX6_room 95 = .ok (.iconst 1, 1) := by decide +kernel
theorem dX6_room_96 : decode cX6_room 96 = .ok (.iadd, 1) := by decide +kernel
theorem dX6_room_97 : decode cX6_room 97 = .ok (.iaload, 1) := by decide +kernel
theorem dX6_room_98 : decode cX6_room 98 = .ok (.iastore, 1) := by decide +kernel
theorem dX6_room_99 : decode cX6_room 99 = .ok (.aload_n 0, 1) := by decide +kernel
theorem dX6_room_100 : decode cX6_room 100 = .ok (.getfield 16, 3) := by decide +kernel
theorem dX6_room_103 : decode cX6_room 103 = .ok (.iload_n 1, 1) := by decide +kernel
theorem dX6_room_104 : decode cX6_room 104 = .ok (.aload_n 0, 1) := by decide +kernel
theorem dX6_room_105 : decode cX6_room 105 = .ok (.getfield 25, 3) := by decide +kernel
theorem dX6_room_108 : decode cX6_room 108 = .ok (.iconst 3, 1) := by decide +kernel
theorem dX6_room_109 : decode cX6_room 109 = .ok (.iload_n 1, 1) := by decide +kernel
theorem dX6_room_110 : decode cX6_room 110 = .ok (.imul, 1) := by decide +kernel
theorem dX6_room_111 : decode cX6_room 111 = .ok (.iconst 2, 1) := by decide +kernel
theorem dX6_room_112 : decode cX6_room 112 = .ok (.iadd, 1) := by decide +kernel
theorem dX6_room_113 : decode cX6_room 113 = .ok (.iaload, 1) := by decide +kernel
theorem dX6_room_114 : decode cX6_room 114 = .ok (.iastore, 1) := by decide +kernel
theorem dX6_room_115 : decode cX6_room 115 = .ok (.iinc 1 1, 3) := by decide +kernel
theorem dX6_room_118 : decode cX6_room 118 = .ok (.goto (-57), 3) := by decide +kernel
theorem dX6_room_121 : decode cX6_room 121 = .ok (.iconst 0, 1) := by decide +kernel
theorem dX6_room_122 : decode cX6_room 122 = .ok (.istore_n 1, 1) := by decide +kernel
theorem dX6_room_123 : decode cX6_room 123 = .ok (.iload_n 1, 1) := by decide +kernel
theorem dX6_room_124 : decode cX6_room 124 = .ok (.aload_n 0, 1) := by decide +kernel
theorem dX6_room_125 : decode cX6_room 125 = .ok (.getfield 89, 3) := by decide +kernel
theorem dX6_room_128 : decode cX6_room 128 = .ok (.if_icmp .ge 21, 3) := by decide +kernel
theorem dX6_room_131 : decode cX6_room 131 = .ok (.aload_n 0, 1) := by decide +kernel
theorem dX6_room_132 : decode cX6_room 132 = .ok (.getfield 19, 3) := by decide +kernel
theorem dX6_room_135 : decode cX6_room 135 = .ok (.iload_n 1, 1) := by decide +kernel
theorem dX6_room_136 : decode cX6_room 136 = .ok (.aload_n 0, 1) := by decide +kernel
theorem dX6_room_137 : decode cX6_room 137 = .ok (.getfield 28, 3) := by decide +kernel
theorem dX6_room_140 : decode cX6_room 140 = .ok (.iload_n 1, 1) := by decide +kernel
theorem dX6_room_141 : decode cX6_room 141 = .ok (.iaload, 1) := by decide +kernel
theorem dX6_room_142 : decode cX6_room 142 = .ok (.iastore, 1) := by decide +kernel
theorem dX6_room_143 : decode cX6_room 143 = .ok (.iinc 1 1, 3) := by decide +kernel
theorem dX6_room_146 : decode cX6_room 146 = .ok (.goto (-23), 3) := by decide +kernel
theorem dX6_room_149 : decode cX6_room 149 = .ok (.aload_n 0, 1) := by decide +kernel
theorem dX6_room_150 : decode cX6_room 150 = .ok (.iconst 0, 1) := by decide +kernel
theorem dX6_room_151 : decode cX6_room 151 = .ok (.putfield 92, 3) := by decide +kernel
theorem dX6_room_154 : decode cX6_room 154 = .ok (.aload_n 0, 1) := by decide +kernel
theorem dX6_room_155 : decode cX6_room 155 = .ok (.getfield 49, 3) := by decide +kernel
theorem dX6_room_158 : decode cX6_room 158 = .ok (.iconst 0, 1) := by decide +kernel
theorem dX6_room_159 : decode cX6_room 159 = .ok (.iconst 0, 1) := by decide +kernel
theorem dX6_room_160 : decode cX6_room 160 = .ok (.bastore, 1) := by decide +kernel
theorem dX6_room_161 : decode cX6_room 161 = .ok (.aload_n 0, 1) := by decide +kernel
theorem dX6_room_162 : decode cX6_room 162 = .ok (.getfield 49, 3) := by decide +kernel
theorem dX6_room_165 : decode cX6_room 165 = .ok (.iconst 1, 1) := by decide +kernel
theorem dX6_room_166 : decode cX6_room 166 = .ok (.iconst 0, 1) := by decide +kernel
theorem dX6_room_167 : decode cX6_room 167 = .ok (.bastore, 1) := by decide +kernel
theorem dX6_room_168 : decode cX6_room 168 = .ok (.bipush 10, 2) := by decide +kernel
theorem dX6_room_170 : decode cX6_room 170 = .ok (.aload_n 0, 1) := by decide +kernel
theorem dX6_room_171 : decode cX6_room 171 = .ok (.getfield 86, 3) := by decide +kernel
theorem dX6_room_174 : decode cX6_room 174 = .ok (.imul, 1) := by decide +kernel
theorem dX6_room_175 : decode cX6_room 175 = .ok (.aload_n 0, 1) := by decide +kernel
theorem dX6_room_176 : decode cX6_room 176 = .ok (.getfield 89, 3) := by decide +kernel
theorem dX6_room_179 : decode cX6_room 179 = .ok (.iadd, 1) := by decide +kernel
theorem dX6_room_180 : decode cX6_room 180 = .ok (.ireturn, 1) := by decide +kernel
theorem dX6_isReader_0 : decode cX6_isReader 0 = .ok (.iload_n 1, 1) := by decide +kernel
theorem dX6_isReader_1 : decode cX6_isReader 1 = .ok (.i2l, 1) := by decide +kernel
theorem dX6_isReader_2 : decode cX6_isReader 2 = .ok (.lconst 0, 1) := by decide +kernel
theorem dX6_isReader_3 : decode cX6_isReader 3 = .ok (.aload_n 0, 1) := by decide +kernel
theorem dX6_isReader_4 : decode cX6_isReader 4 = .ok (.getfield 86, 3) := by decide +kernel
theorem dX6_isReader_7 : decode cX6_isReader 7 = .ok (.iconst 1, 1) := by decide +kernel
theorem dX6_isReader_8 : decode cX6_isReader 8 = .ok (.isub, 1) := by decide +kernel
theorem dX6_isReader_9 : decode cX6_isReader 9 = .ok (.i2l, 1) := by decide +kernel
theorem dX6_isReader_10 : decode cX6_isReader 10 = .ok (.invokestatic 58, 3) := by decide +kernel
theorem dX6_isReader_13 : decode cX6_isReader 13 = .ok (.ireturn, 1) := by decide +kernel
theorem dX6_isSample_0 : decode cX6_isSample 0 = .ok (.iload_n 1, 1) := by decide +kernel
theorem dX6_isSample_1 : decode cX6_isSample 1 = .ok (.i2l, 1) := by decide +kernel
theorem dX6_isSample_2 : decode cX6_isSample 2 = .ok (.lconst 0, 1) := by decide +kernel
theorem dX6_isSample_3 : decode cX6_isSample 3 = .ok (.aload_n 0, 1) := by decide +kernel
theorem dX6_isSample_4 : decode cX6_isSample 4 = .ok (.getfield 89, 3) := by decide +kernel
theorem dX6_isSample_7 : decode cX6_isSample 7 = .ok (.iconst 1, 1) := by decide +kernel
theorem dX6_isSample_8 : decode cX6_isSample 8 = .ok (.isub, 1) := by decide +kernel
theorem dX6_isSample_9 : decode cX6_isSample 9 = .ok (.i2l, 1) := by decide +kernel
theorem dX6_isSample_10 : decode cX6_isSample 10 = .ok (.invokestatic 58, 3) := by decide +kernel
theorem dX6_isSample_13 : decode cX6_isSample 13 = .ok (.ireturn, 1) := by decide +kernel
theorem dX6_brightFor_0 : decode cX6_brightFor 0 = .ok (.aload_n 0, 1) := by decide +kernel
theorem dX6_brightFor_1 : decode cX6_brightFor 1 = .ok (.getfield 16, 3) := by decide +kernel
theorem dX6_brightFor_4 : decode cX6_brightFor 4 = .ok (.iload_n 1, 1) := by decide +kernel
theorem dX6_brightFor_5 : decode cX6_brightFor 5 = .ok (.iaload, 1) := by decide +kernel
theorem dX6_brightFor_6 : decode cX6_brightFor 6 = .ok (.iconst 1, 1) := by decide +kernel
theorem dX6_brightFor_7 : decode cX6_brightFor 7 = .ok (.if_icmp .ne 13, 3) := by decide +kernel
theorem dX6_brightFor_10 : decode cX6_brightFor 10 = .ok (.iload_n 2, 1) := by decide +kernel
theorem dX6_brightFor_11 : decode cX6_brightFor 11 = .ok (.ifCond .le 9, 3) := by decide +kernel
theorem dX6_brightFor_14 : decode cX6_brightFor 14 = .ok (.iload_n 2, 1) := by decide +kernel
theorem dX6_brightFor_15 : decode cX6_brightFor 15 = .ok (.iconst 2, 1) := by decide +kernel
theorem dX6_brightFor_16 : decode cX6_brightFor 16 = .ok (.iadd, 1) := by decide +kernel
theorem dX6_brightFor_17 : decode cX6_brightFor 17 = .ok (.goto 4, 3) := by decide +kernel
theorem dX6_brightFor_20 : decode cX6_brightFor 20 = .ok (.iload_n 2, 1) := by decide +kernel
theorem dX6_brightFor_21 : decode cX6_brightFor 21 = .ok (.istore 6, 2) := by decide +kernel
theorem dX6_brightFor_23 : decode cX6_brightFor 23 = .ok (.iload_n 3, 1) := by decide +kernel
theorem dX6_brightFor_24 : decode cX6_brightFor 24 = .ok (.iload 4, 2) := by decide +kernel
theorem dX6_brightFor_26 : decode cX6_brightFor 26 = .ok (.ifCond .eq 8, 3) := by decide +kernel
theorem dX6_brightFor_29 : decode cX6_brightFor 29 = .ok (.iload 6, 2) := by decide +kernel
theorem dX6_brightFor_31 : decode cX6_brightFor 31 = .ok (.goto 4, 3) := by decide +kernel
theorem dX6_brightFor_34 : decode cX6_brightFor 34 = .ok (.iconst 0, 1) := by decide +kernel
theorem dX6_brightFor_35 : decode cX6_brightFor 35 = .ok (.iadd, 1) := by decide +kernel
theorem dX6_brightFor_36 : decode cX6_brightFor 36 = .ok (.istore 7, 2) := by decide +kernel
theorem dX6_brightFor_38 : decode cX6_brightFor 38 = .ok (.aload_n 0, 1) := by decide +kernel
theorem dX6_brightFor_39 : decode cX6_brightFor 39 = .ok (.getfield 16, 3) := by decide +kernel
theorem dX6_brightFor_42 : decode cX6_brightFor 42 = .ok (.iload_n 1, 1) := by decide +kernel
theorem dX6_brightFor_43 : decode cX6_brightFor 43 = .ok (.iaload, 1) := by decide +kernel
theorem dX6_brightFor_44 : decode cX6_brightFor 44 = .ok (.iconst 2, 1) := by decide +kernel
theorem dX6_brightFor_45 : decode cX6_brightFor 45 = .ok (.if_icmp .ne 10, 3) := by decide +kernel
theorem dX6_brightFor_48 : decode cX6_brightFor 48 = .ok (.iload 5, 2) := by decide +kernel
theorem dX6_brightFor_50 : decode cX6_brightFor 50 = .ok (.iconst 2, 1) := by decide +kernel
theorem dX6_brightFor_51 : decode cX6_brightFor 51 = .ok (.idiv, 1) := by decide +kernel
theorem dX6_brightFor_52 : decode cX6_brightFor 52 = .ok (.goto 4, 3) := by decide +kernel
theorem dX6_brightFor_55 : decode cX6_brightFor 55 = .ok (.iconst 0, 1) := by decide +kernel
theorem dX6_brightFor_56 : decode cX6_brightFor 56 = .ok (.istore 8, 2) := by decide +kernel
theorem dX6_brightFor_58 : decode cX6_brightFor 58 = .ok (.iload 7, 2) := by decide +kernel
theorem dX6_brightFor_60 : decode cX6_brightFor 60 = .ok (.iload 8, 2) := by decide +kernel
theorem dX6_brightFor_62 : decode cX6_brightFor 62 = .ok (.if_icmp .le 11, 3) := by decide +kernel
theorem dX6_brightFor_65 : decode cX6_brightFor 65 = .ok (.iload 7, 2) := by decide +kernel
theorem dX6_brightFor_67 : decode cX6_brightFor 67 = .ok (.iload 8, 2) := by decide +kernel
theorem dX6_brightFor_69 : decode cX6_brightFor 69 = .ok (.isub, 1) := by decide +kernel
theorem dX6_brightFor_70 : decode cX6_brightFor 70 = .ok (.goto 4, 3) := by decide +kernel
theorem dX6_brightFor_73 : decode cX6_brightFor 73 = .ok (.iconst 0, 1) := by decide +kernel
theorem dX6_brightFor_74 : decode cX6_brightFor 74 = .ok (.ireturn, 1) := by decide +kernel
theorem dX6_saysYes_0 : decode cX6_saysYes 0 = .ok (.aload_n 0, 1) := by decide +kernel
theorem dX6_saysYes_1 : decode cX6_saysYes 1 = .ok (.getfield 16, 3) := by decide +kernel
theorem dX6_saysYes_4 : decode cX6_saysYes 4 = .ok (.iload_n 1, 1) := by decide +kernel
theorem dX6_saysYes_5 : decode cX6_saysYes 5 = .ok (.iaload, 1) := by decide +kernel
theorem dX6_saysYes_6 : decode cX6_saysYes 6 = .ok (.iconst 3, 1) := by decide +kernel
theorem dX6_saysYes_7 : decode cX6_saysYes 7 = .ok (.if_icmp .eq 13, 3) := by decide +kernel
theorem dX6_saysYes_10 : decode cX6_saysYes 10 = .ok (.iload_n 2, 1) := by decide +kernel
theorem dX6_saysYes_11 : decode cX6_saysYes 11 = .ok (.aload_n 0, 1) := by decide +kernel
theorem dX6_saysYes_12 : decode cX6_saysYes 12 = .ok (.getfield 13, 3) := by decide +kernel
theorem dX6_saysYes_15 : decode cX6_saysYes 15 = .ok (.iload_n 1, 1) := by decide +kernel
theorem dX6_saysYes_16 : decode cX6_saysYes 16 = .ok (.iaload, 1) := by decide +kernel
theorem dX6_saysYes_17 : decode cX6_saysYes 17 = .ok (.if_icmp .lt 7, 3) := by decide +kernel
theorem dX6_saysYes_20 : decode cX6_saysYes 20 = .ok (.iconst 1, 1) := by decide +kernel
theorem dX6_saysYes_21 : decode cX6_saysYes 21 = .ok (.goto 4, 3) := by decide +kernel
theorem dX6_saysYes_24 : decode cX6_saysYes 24 = .ok (.iconst 0, 1) := by decide +kernel
theorem dX6_saysYes_25 : decode cX6_saysYes 25 = .ok (.ireturn, 1) := by decide +kernel
theorem dX6_brightOn_0 : decode cX6_brightOn 0 = .ok (.bipush 9, 2) := by decide +kernel
theorem dX6_brightOn_2 : decode cX6_brightOn 2 = .ok (.iload_n 1, 1) := by decide +kernel
theorem dX6_brightOn_3 : decode cX6_brightOn 3 = .ok (.imul, 1) := by decide +kernel
theorem dX6_brightOn_4 : decode cX6_brightOn 4 = .ok (.istore 4, 2) := by decide +kernel
theorem dX6_brightOn_6 : decode cX6_brightOn 6 = .ok (.aload_n 0, 1) := by decide +kernel
theorem dX6_brightOn_7 : decode cX6_brightOn 7 = .ok (.iload_n 2, 1) := by decide +kernel
theorem dX6_brightOn_8 : decode cX6_brightOn 8 = .ok (.aload_n 0, 1) := by decide +kernel
theorem dX6_brightOn_9 : decode cX6_brightOn 9 = .ok (.getfield 7, 3) := by decide +kernel
theorem dX6_brightOn_12 : decode cX6_brightOn 12 = .ok (.iload_n 2, 1) := by decide +kernel
theorem dX6_brightOn_13 : decode cX6_brightOn 13 = .ok (.iaload, 1) := by decide +kernel
theorem dX6_brightOn_14 : decode cX6_brightOn 14 = .ok (.aload_n 0, 1) := by decide +kernel
theorem dX6_brightOn_15 : decode cX6_brightOn 15 = .ok (.getfield 22, 3) := by decide +kernel
theorem dX6_brightOn_18 : decode cX6_brightOn 18 = .ok (.iload 4, 2) := by decide +kernel
theorem dX6_brightOn_20 : decode cX6_brightOn 20 = .ok (.bipush 7, 2) := by decide +kernel
theorem dX6_brightOn_22 : decode cX6_brightOn 22 = .ok (.iadd, 1) := by decide +kernel
theorem dX6_brightOn_23 : decode cX6_brightOn 23 = .ok (.iaload, 1) := by decide +kernel
theorem dX6_brightOn_24 : decode cX6_brightOn 24 = .ok (.iconst 1, 1) := by decide +kernel
theorem dX6_brightOn_25 : decode cX6_brightOn 25 = .ok (.if_icmp .ne 12, 3) := by decide +kernel
theorem dX6_brightOn_28 : decode cX6_brightOn 28 = .ok (.aload_n 0, 1) := by decide +kernel
theorem dX6_brightOn_29 : decode cX6_brightOn 29 = .ok (.getfield 19, 3) := by decide +kernel
theorem dX6_brightOn_32 : decode cX6_brightOn 32 = .ok (.iload_n 3, 1) := by decide +kernel
theorem dX6_brightOn_33 : decode cX6_brightOn 33 = .ok (.iaload, 1) := by decide +kernel
theorem dX6_brightOn_34 : decode cX6_brightOn 34 = .ok (.goto 4, 3) := by decide +kernel
theorem dX6_brightOn_37 : decode cX6_brightOn 37 = .ok (.iconst 0, 1) := by decide +kernel
theorem dX6_brightOn_38 : decode cX6_brightOn 38 = .ok (.aload_n 0, 1) := by decide +kernel
theorem dX6_brightOn_39 : decode cX6_brightOn 39 = .ok (.getfield 22, 3) := by decide +kernel
theorem dX6_brightOn_42 : decode cX6_brightOn 42 = .ok (.iload 4, 2) := by decide +kernel
theorem dX6_brightOn_44 : decode cX6_brightOn 44 = .ok (.bipush 8, 2) := by decide +kernel
theorem dX6_brightOn_46 : decode cX6_brightOn 46 = .ok (.iadd, 1) := by decide +kernel
theorem dX6_brightOn_47 : decode cX6_brightOn 47 = .ok (.iaload, 1) := by decide +kernel
theorem dX6_brightOn_48 : decode cX6_brightOn 48 = .ok (.iconst 1, 1) := by decide +kernel
theorem dX6_brightOn_49 : decode cX6_brightOn 49 = .ok (.if_icmp .ne 7, 3) := by decide +kernel
theorem dX6_brightOn_52 : decode cX6_brightOn 52 = .ok (.iconst 1, 1) := by decide +kernel
theorem dX6_brightOn_53 : decode cX6_brightOn 53 = .ok (.goto 4, 3) := by decide +kernel
theorem dX6_brightOn_56 : decode cX6_brightOn 56 = .ok (.iconst 0, 1) := by decide +kernel
theorem dX6_brightOn_57 : decode cX6_brightOn 57 = .ok (.aload_n 0, 1) := by decide +kernel
theorem dX6_brightOn_58 : decode cX6_brightOn 58 = .ok (.getfield 22, 3) := by decide +kernel
theorem dX6_brightOn_61 : decode cX6_brightOn 61 = .ok (.iload 4, 2) := by decide +kernel
theorem dX6_brightOn_63 : decode cX6_brightOn 63 = .ok (.iload_n 2, 1) := by decide +kernel
theorem dX6_brightOn_64 : decode cX6_brightOn 64 = .ok (.iadd, 1) := by decide +kernel
theorem dX6_brightOn_65 : decode cX6_brightOn 65 = .ok (.iaload, 1) := by decide +kernel
theorem dX6_brightOn_66 : decode cX6_brightOn 66 = .ok (.invokevirtual 95, 3) := by decide +kernel
theorem dX6_brightOn_69 : decode cX6_brightOn 69 = .ok (.ireturn, 1) := by decide +kernel
theorem dX6_saysOn_0 : decode cX6_saysOn 0 = .ok (.aload_n 0, 1) := by decide +kernel
theorem dX6_saysOn_1 : decode cX6_saysOn 1 = .ok (.iload_n 2, 1) := by decide +kernel
theorem dX6_saysOn_2 : decode cX6_saysOn 2 = .ok (.aload_n 0, 1) := by decide +kernel
theorem dX6_saysOn_3 : decode cX6_saysOn 3 = .ok (.iload_n 1, 1) := by decide +kernel
theorem dX6_saysOn_4 : decode cX6_saysOn 4 = .ok (.iload_n 2, 1) := by decide +kernel
theorem dX6_saysOn_5 : decode cX6_saysOn 5 = .ok (.iload_n 3, 1) := by decide +kernel
theorem dX6_saysOn_6 : decode cX6_saysOn 6 = .ok (.invokevirtual 99, 3) := by decide +kernel
theorem dX6_saysOn_9 : decode cX6_saysOn 9 = .ok (.invokevirtual 103, 3) := by decide +kernel
theorem dX6_saysOn_12 : decode cX6_saysOn 12 = .ok (.ireturn, 1) := by decide +kernel
theorem dX6_isRight_0 : decode cX6_isRight 0 = .ok (.iload_n 1, 1) := by decide +kernel
theorem dX6_isRight_1 : decode cX6_isRight 1 = .ok (.aload_n 0, 1) := by decide +kernel
theorem dX6_isRight_2 : decode cX6_isRight 2 = .ok (.getfield 19, 3) := by decide +kernel
theorem dX6_isRight_5 : decode cX6_isRight 5 = .ok (.iload_n 2, 1) := by decide +kernel
theorem dX6_isRight_6 : decode cX6_isRight 6 = .ok (.iaload, 1) := by decide +kernel
theorem dX6_isRight_7 : decode cX6_isRight 7 = .ok (.ifCond .le 7, 3) := by decide +kernel
theorem dX6_isRight_10 : decode cX6_isRight 10 = .ok (.iconst 1, 1) := by decide +kernel
theorem dX6_isRight_11 : decode cX6_isRight 11 = .ok (.goto 4, 3) := by decide +kernel
theorem dX6_isRight_14 : decode cX6_isRight 14 = .ok (.iconst 0, 1) := by decide +kernel
theorem dX6_isRight_15 : decode cX6_isRight 15 = .ok (.if_icmp .ne 7, 3) := by decide +kernel
theorem dX6_isRight_18 : decode cX6_isRight 18 = .ok (.iconst 1, 1) := by decide +kernel
theorem dX6_isRight_19 : decode cX6_isRight 19 = .ok (.goto 4, 3) := by decide +kernel
theorem dX6_isRight_22 : decode cX6_isRight 22 = .ok (.iconst 0, 1) := by decide +kernel
theorem dX6_isRight_23 : decode cX6_isRight 23 = .ok (.ireturn, 1) := by decide +kernel
theorem dX6_readOn_0 : decode cX6_readOn 0 = .ok (.bipush 9, 2) := by decide +kernel
theorem dX6_readOn_2 : decode cX6_readOn 2 = .ok (.iload_n 1, 1) := by decide +kernel
theorem dX6_readOn_3 : decode cX6_readOn 3 = .ok (.imul, 1) := by decide +kernel
theorem dX6_readOn_4 : decode cX6_readOn 4 = .ok (.istore 4, 2) := by decide +kernel
theorem dX6_readOn_6 : decode cX6_readOn 6 = .ok (.aload_n 0, 1) := by decide +kernel
theorem dX6_readOn_7 : decode cX6_readOn 7 = .ok (.iload_n 1, 1) := by decide +kernel
theorem dX6_readOn_8 : decode cX6_readOn 8 = .ok (.iload_n 2, 1) := by decide +kernel
theorem dX6_readOn_9 : decode cX6_readOn 9 = .ok (.iload_n 3, 1) := by decide +kernel
theorem dX6_readOn_10 : decode cX6_readOn 10 = .ok (.invokevirtual 107, 3) := by decide +kernel
theorem dX6_readOn_13 : decode cX6_readOn 13 = .ok (.istore 5, 2) := by decide +kernel
theorem dX6_readOn_15 : decode cX6_readOn 15 = .ok (.iconst 1, 1) := by decide +kernel
theorem dX6_readOn_16 : decode cX6_readOn 16 = .ok (.iconst 4, 1) := by decide +kernel
theorem dX6_readOn_17 : decode cX6_readOn 17 = .ok (.iload_n 2, 1) := by decide +kernel
theorem dX6_readOn_18 : decode cX6_readOn 18 = .ok (.imul, 1) := by decide +kernel
theorem dX6_readOn_19 : decode cX6_readOn 19 = .ok (.iload_n 3, 1) := by decide +kernel
theorem dX6_readOn_20 : decode cX6_readOn 20 = .ok (.iadd, 1) := by decide +kernel
theorem dX6_readOn_21 : decode cX6_readOn 21 = .ok (.ishl, 1) := by decide +kernel
theorem dX6_readOn_22 : decode cX6_readOn 22 = .ok (.istore 6, 2) := by decide +kernel
theorem dX6_readOn_24 : decode cX6_readOn 24 = .ok (.aload_n 0, 1) := by decide +kernel
theorem dX6_readOn_25 : decode cX6_readOn 25 = .ok (.getfield 22, 3) := by decide +kernel
theorem dX6_readOn_28 : decode cX6_readOn 28 = .ok (.iload 4, 2) := by decide +kernel
theorem dX6_readOn_30 : decode cX6_readOn 30 = .ok (.iconst 5, 1) := by decide +kernel
theorem dX6_readOn_31 : decode cX6_readOn 31 = .ok (.iadd, 1) := by decide +kernel
theorem dX6_readOn_32 : decode cX6_readOn 32 = .ok (.iload 5, 2) := by decide +kernel
theorem dX6_readOn_34 : decode cX6_readOn 34 = .ok (.ifCond .eq 18, 3) := by decide +kernel
theorem dX6_readOn_37 : decode cX6_readOn 37 = .ok (.aload_n 0, 1) := by decide +kernel
theorem dX6_readOn_38 : decode cX6_readOn 38 = .ok (.getfield 22, 3) := by decide +kernel
theorem dX6_readOn_41 : decode cX6_readOn 41 = .ok (.iload 4, 2) := by decide +kernel
theorem dX6_readOn_43 : decode cX6_readOn 43 = .ok (.iconst 5, 1) := by decide +kernel
theorem dX6_readOn_44 : decode cX6_readOn 44 = .ok (.iadd, 1) := by decide +kernel
theorem dX6_readOn_45 : decode cX6_readOn 45 = .ok (.iaload, 1) := by decide +kernel
theorem dX6_readOn_46 : decode cX6_readOn 46 = .ok (.iload 6, 2) := by decide +kernel
theorem dX6_readOn_48 : decode cX6_readOn 48 = .ok (.ior, 1) := by decide +kernel
theorem dX6_readOn_49 : decode cX6_readOn 49 = .ok (.goto 17, 3) := by decide +kernel
theorem dX6_readOn_52 : decode cX6_readOn 52 = .ok (.aload_n 0, 1) := by decide +kernel
theorem dX6_readOn_53 : decode cX6_readOn 53 = .ok (.getfield 22, 3) := by decide +kernel
theorem dX6_readOn_56 : decode cX6_readOn 56 = .ok (.iload 4, 2) := by decide +kernel
theorem dX6_readOn_58 : decode cX6_readOn 58 = .ok (.iconst 5, 1) := by decide +kernel
theorem dX6_readOn_59 : decode cX6_readOn 59 = .ok (.iadd, 1) := by decide +kernel
theorem dX6_readOn_60 : decode cX6_readOn 60 = .ok (.iaload, 1) := by decide +kernel
theorem dX6_readOn_61 : decode cX6_readOn 61 = .ok (.iload 6, 2) := by decide +kernel
theorem dX6_readOn_63 : decode cX6_readOn 63 = .ok (.iconst (-1), 1) := by decide +kernel
theorem dX6_readOn_64 : decode cX6_readOn 64 = .ok (.ixor, 1) := by decide +kernel
theorem dX6_readOn_65 : decode cX6_readOn 65 = .ok (.iand, 1) := by decide +kernel
theorem dX6_readOn_66 : decode cX6_readOn 66 = .ok (.iastore, 1) := by decide +kernel
theorem dX6_readOn_67 : decode cX6_readOn 67 = .ok (.aload_n 0, 1) := by decide +kernel
theorem dX6_readOn_68 : decode cX6_readOn 68 = .ok (.getfield 22, 3) := by decide +kernel
theorem dX6_readOn_71 : decode cX6_readOn 71 = .ok (.iload 4, 2) := by decide +kernel
theorem dX6_readOn_73 : decode cX6_readOn 73 = .ok (.bipush 6, 2) := by decide +kernel
theorem dX6_readOn_75 : decode cX6_readOn 75 = .ok (.iadd, 1) := by decide +kernel
theorem dX6_readOn_76 : decode cX6_readOn 76 = .ok (.iload 5, 2) := by decide +kernel
theorem dX6_readOn_78 : decode cX6_readOn 78 = .ok (.ifCond .eq 21, 3) := by decide +kernel
theorem dX6_readOn_81 : decode cX6_readOn 81 = .ok (.aload_n 0, 1) := by decide +kernel
theorem dX6_readOn_82 : decode cX6_readOn 82 = .ok (.getfield 22, 3) := by decide +kernel
theorem dX6_readOn_85 : decode cX6_readOn 85 = .ok (.iload 4, 2) := by decide +kernel
theorem dX6_readOn_87 : decode cX6_readOn 87 = .ok (.bipush 6, 2) := by decide +kernel
theorem dX6_readOn_89 : decode cX6_readOn 89 = .ok (.iadd, 1) := by decide +kernel
theorem dX6_readOn_90 : decode cX6_readOn 90 = .ok (.iaload, 1) := by decide +kernel
theorem dX6_readOn_91 : decode cX6_readOn 91 = .ok (.iload 6, 2) := by decide +kernel
theorem dX6_readOn_93 : decode cX6_readOn 93 = .ok (.iconst (-1), 1) := by decide +kernel
theorem dX6_readOn_94 : decode cX6_readOn 94 = .ok (.ixor, 1) := by decide +kernel
theorem dX6_readOn_95 : decode cX6_readOn 95 = .ok (.iand, 1) := by decide +kernel
theorem dX6_readOn_96 : decode cX6_readOn 96 = .ok (.goto 16, 3) := by decide +kernel
theorem dX6_readOn_99 : decode cX6_readOn 99 = .ok (.aload_n 0, 1) := by decide +kernel
theorem dX6_readOn_100 : decode cX6_readOn 100 = .ok (.getfield 22, 3) := by decide +kernel
theorem dX6_readOn_103 : decode cX6_readOn 103 = .ok (.iload 4, 2) := by decide +kernel
theorem dX6_readOn_105 : decode cX6_readOn 105 = .ok (.bipush 6, 2) := by decide +kernel
theorem dX6_readOn_107 : decode cX6_readOn 107 = .ok (.iadd, 1) := by decide +kernel
theorem dX6_readOn_108 : decode cX6_readOn 108 = .ok (.iaload, 1) := by decide +kernel
theorem dX6_readOn_109 : decode cX6_readOn 109 = .ok (.iload 6, 2) := by decide +kernel
theorem dX6_readOn_111 : decode cX6_readOn 111 = .ok (.ior, 1) := by decide +kernel
theorem dX6_readOn_112 : decode cX6_readOn 112 = .ok (.iastore, 1) := by decide +kernel
theorem dX6_readOn_113 : decode cX6_readOn 113 = .ok (.aload_n 0, 1) := by decide +kernel
theorem dX6_readOn_114 : decode cX6_readOn 114 = .ok (.getfield 22, 3) := by decide +kernel
theorem dX6_readOn_117 : decode cX6_readOn 117 = .ok (.iload 4, 2) := by decide +kernel
theorem dX6_readOn_119 : decode cX6_readOn 119 = .ok (.iload_n 2, 1) := by decide +kernel
theorem dX6_readOn_120 : decode cX6_readOn 120 = .ok (.iadd, 1) := by decide +kernel
theorem dX6_readOn_121 : decode cX6_readOn 121 = .ok (.dup2, 1) := by decide +kernel
theorem dX6_readOn_122 : decode cX6_readOn 122 = .ok (.iaload, 1) := by decide +kernel
theorem dX6_readOn_123 : decode cX6_readOn 123 = .ok (.aload_n 0, 1) := by decide +kernel
theorem dX6_readOn_124 : decode cX6_readOn 124 = .ok (.getfield 22, 3) := by decide +kernel
theorem dX6_readOn_127 : decode cX6_readOn 127 = .ok (.iload 4, 2) := by decide +kernel
theorem dX6_readOn_129 : decode cX6_readOn 129 = .ok (.iload_n 2, 1) := by decide +kernel
theorem dX6_readOn_130 : decode cX6_readOn 130 = .ok (.iadd, 1) := by decide +kernel
theorem dX6_readOn_131 : decode cX6_readOn 131 = .ok (.iaload, 1) := by decide +kernel
theorem dX6_readOn_132 : decode cX6_readOn 132 = .ok (.bipush 9, 2) := by decide +kernel
theorem dX6_readOn_134 : decode cX6_readOn 134 = .ok (.if_icmp .ge 7, 3) := by decide +kernel
theorem dX6_readOn_137 : decode cX6_readOn 137 = .ok (.iconst 1, 1) := by decide +kernel
theorem dX6_readOn_138 : decode cX6_readOn 138 = .ok (.goto 4, 3) := by decide +kernel
theorem dX6_readOn_141 : decode cX6_readOn 141 = .ok (.iconst 0, 1) := by decide +kernel
theorem dX6_readOn_142 : decode cX6_readOn 142 = .ok (.iadd, 1) := by decide +kernel
theorem dX6_readOn_143 : decode cX6_readOn 143 = .ok (.iastore, 1) := by decide +kernel
theorem dX6_readOn_144 : decode cX6_readOn 144 = .ok (.iload 5, 2) := by decide +kernel
theorem dX6_readOn_146 : decode cX6_readOn 146 = .ok (.ireturn, 1) := by decide +kernel
theorem dX6_reader_0 : decode cX6_reader 0 = .ok (.aload_n 0, 1) := by decide +kernel
theorem dX6_reader_1 : decode cX6_reader 1 = .ok (.iload_n 1, 1) := by decide +kernel
theorem dX6_reader_2 : decode cX6_reader 2 = .ok (.invokevirtual 111, 3) := by decide +kernel
theorem dX6_reader_5 : decode cX6_reader 5 = .ok (.ifCond .ne 5, 3) := by decide +kernel
theorem dX6_reader_8 : decode cX6_reader 8 = .ok (.iconst (-1), 1) := by decide +kernel
theorem dX6_reader_9 : decode cX6_reader 9 = .ok (.ireturn, 1) := by decide +kernel
theorem dX6_reader_10 : decode cX6_reader 10 = .ok (.iload_n 2, 1) := by decide +kernel
theorem dX6_reader_11 : decode cX6_reader 11 = .ok (.tableswitch 57 0 3 #[29, 36, 43, 50], 29) := by decide +kernel
theorem dX6_reader_40 : decode cX6_reader 40 = .ok (.aload_n 0, 1) := by decide +kernel
theorem dX6_reader_41 : decode cX6_reader 41 = .ok (.getfield 7, 3) := by decide +kernel
theorem dX6_reader_44 : decode cX6_reader 44 = .ok (.iload_n 1, 1) := by decide +kernel
theorem dX6_reader_45 : decode cX6_reader 45 = .ok (.iaload, 1) := by decide +kernel
theorem dX6_reader_46 : decode cX6_reader 46 = .ok (.ireturn, 1) := by decide +kernel
theorem dX6_reader_47 : decode cX6_reader 47 = .ok (.aload_n 0, 1) := by decide +kernel
theorem dX6_reader_48 : decode cX6_reader 48 = .ok (.getfield 13, 3) := by decide +kernel
theorem dX6_reader_51 : decode cX6_reader 51 = .ok (.iload_n 1, 1) := by decide +kernel
theorem dX6_reader_52 : decode cX6_reader 52 = .ok (.iaload, 1) := by decide +kernel
theorem dX6_reader_53 : decode cX6_reader 53 = .ok (.ireturn, 1) := by decide +kernel
theorem dX6_reader_54 : decode cX6_reader 54 = .ok (.aload_n 0, 1) := by decide +kernel
theorem dX6_reader_55 : decode cX6_reader 55 = .ok (.getfield 16, 3) := by decide +kernel
theorem dX6_reader_58 : decode cX6_reader 58 = .ok (.iload_n 1, 1) := by decide +kernel
theorem dX6_reader_59 : decode cX6_reader 59 = .ok (.iaload, 1) := by decide +kernel
theorem dX6_reader_60 : decode cX6_reader 60 = .ok (.ireturn, 1) := by decide +kernel
theorem dX6_reader_61 : decode cX6_reader 61 = .ok (.aload_n 0, 1) := by decide +kernel
theorem dX6_reader_62 : decode cX6_reader 62 = .ok (.getfield 22, 3) := by decide +kernel
theorem dX6_reader_65 : decode cX6_reader 65 = .ok (.iload_n 1, 1) := by decide +kernel
theorem dX6_reader_66 : decode cX6_reader 66 = .ok (.iaload, 1) := by decide +kernel
theorem dX6_reader_67 : decode cX6_reader 67 = .ok (.ireturn, 1) := by decide +kernel
theorem dX6_reader_68 : decode cX6_reader 68 = .ok (.bipush (-2), 2) := by decide +kernel
theorem dX6_reader_70 : decode cX6_reader 70 = .ok (.ireturn, 1) := by decide +kernel
theorem dX6_papersOn_0 : decode cX6_papersOn 0 = .ok (.iconst 0, 1) := by decide +kernel
theorem dX6_papersOn_1 : decode cX6_papersOn 1 = .ok (.istore_n 3, 1) := by decide +kernel
theorem dX6_papersOn_2 : decode cX6_papersOn 2 = .ok (.iconst 0, 1) := by decide +kernel
theorem dX6_papersOn_3 : decode cX6_papersOn 3 = .ok (.istore 4, 2) := by decide +kernel
theorem dX6_papersOn_5 : decode cX6_papersOn 5 = .ok (.iload 4, 2) := by decide +kernel
theorem dX6_papersOn_7 : decode cX6_papersOn 7 = .ok (.aload_n 0, 1) := by decide +kernel
theorem dX6_papersOn_8 : decode cX6_papersOn 8 = .ok (.getfield 86, 3) := by decide +kernel
theorem dX6_papersOn_11 : decode cX6_papersOn 11 = .ok (.if_icmp .ge 33, 3) := by decide +kernel
theorem dX6_papersOn_14 : decode cX6_papersOn 14 = .ok (.iload_n 3, 1) := by decide +kernel
theorem dX6_papersOn_15 : decode cX6_papersOn 15 = .ok (.iload_n 1, 1) := by decide +kernel
theorem dX6_papersOn_16 : decode cX6_papersOn 16 = .ok (.iconst 4, 1) := by decide +kernel
theorem dX6_papersOn_17 : decode cX6_papersOn 17 = .ok (.iload 4, 2) := by decide +kernel
theorem dX6_papersOn_19 : decode cX6_papersOn 19 = .ok (.imul, 1) := by decide +kernel
theorem dX6_papersOn_20 : decode cX6_papersOn 20 = .ok (.iload_n 2, 1) := by decide +kernel
theorem dX6_papersOn_21 : decode cX6_papersOn 21 = .ok (.iadd, 1) := by decide +kernel
theorem dX6_papersOn_22 : decode cX6_papersOn 22 = .ok (.invokestatic 115, 3) := by decide +kernel
theorem dX6_papersOn_25 : decode cX6_papersOn 25 = .ok (.ifCond .eq 10, 3) := by decide +kernel
theorem dX6_papersOn_28 : decode cX6_papersOn 28 = .ok (.iconst 1, 1) := by decide +kernel
theorem dX6_papersOn_29 : decode cX6_papersOn 29 = .ok (.iload 4, 2) := by decide +kernel
theorem dX6_papersOn_31 : decode cX6_papersOn 31 = .ok (.ishl, 1) := by decide +kernel
theorem dX6_papersOn_32 : decode cX6_papersOn 32 = .ok (.goto 4, 3) := by decide +kernel
theorem dX6_papersOn_35 : decode cX6_papersOn 35 = .ok (.iconst 0, 1) := by decide +kernel
theorem dX6_papersOn_36 : decode cX6_papersOn 36 = .ok (.ior, 1) := by decide +kernel
theorem dX6_papersOn_37 : decode cX6_papersOn 37 = .ok (.istore_n 3, 1) := by decide +kernel
theorem dX6_papersOn_38 : decode cX6_papersOn 38 = .ok (.iinc 4 1, 3) := by decide +kernel
theorem dX6_papersOn_41 : decode cX6_papersOn 41 = .ok (.goto (-36), 3) := by decide +kernel
theorem dX6_papersOn_44 : decode cX6_papersOn 44 = .ok (.iload_n 3, 1) := by decide +kernel
theorem dX6_papersOn_45 : decode cX6_papersOn 45 = .ok (.ireturn, 1) := by decide +kernel
theorem dX6_yesOn_0 : decode cX6_yesOn 0 = .ok (.iconst 0, 1) := by decide +kernel
theorem dX6_yesOn_1 : decode cX6_yesOn 1 = .ok (.istore_n 2, 1) := by decide +kernel
theorem dX6_yesOn_2 : decode cX6_yesOn 2 = .ok (.iconst 0, 1) := by decide +kernel
theorem dX6_yesOn_3 : decode cX6_yesOn 3 = .ok (.istore_n 3, 1) := by decide +kernel
theorem dX6_yesOn_4 : decode cX6_yesOn 4 = .ok (.iload_n 3, 1) := by decide +kernel
theorem dX6_yesOn_5 : decode cX6_yesOn 5 = .ok (.aload_n 0, 1) := by decide +kernel
theorem dX6_yesOn_6 : decode cX6_yesOn 6 = .ok (.getfield 86, 3) := by decide +kernel
theorem dX6_yesOn_9 : decode cX6_yesOn 9 = .ok (.if_icmp .ge 29, 3) := by decide +kernel
theorem dX6_yesOn_12 : decode cX6_yesOn 12 = .ok (.iload_n 2, 1) := by decide +kernel
theorem dX6_yesOn_13 : decode cX6_yesOn 13 = .ok (.aload_n 0, 1) := by decide +kernel
theorem dX6_yesOn_14 : decode cX6_yesOn 14 = .ok (.iconst 0, 1) := by decide +kernel
theorem dX6_yesOn_15 : decode cX6_yesOn 15 = .ok (.iload_n 3, 1) := by decide +kernel
theorem dX6_yesOn_16 : decode cX6_yesOn 16 = .ok (.iload_n 1, 1) := by decide +kernel
theorem dX6_yesOn_17 : decode cX6_yesOn 17 = .ok (.invokevirtual 107, 3) := by decide +kernel
theorem dX6_yesOn_20 : decode cX6_yesOn 20 = .ok (.ifCond .eq 9, 3) := by decide +kernel
theorem dX6_yesOn_23 : decode cX6_yesOn 23 = .ok (.iconst 1, 1) := by decide +kernel
theorem dX6_yesOn_24 : decode cX6_yesOn 24 = .ok (.iload_n 3, 1) := by decide +kernel
theorem dX6_yesOn_25 : decode cX6_yesOn 25 = .ok (.ishl, 1) := by decide +kernel
theorem dX6_yesOn_26 : decode cX6_yesOn 26 = .ok (.goto 4, 3) := by decide +kernel
theorem dX6_yesOn_29 : decode cX6_yesOn 29 = .ok (.iconst 0, 1) := by decide +kernel
theorem dX6_yesOn_30 : decode cX6_yesOn 30 = .ok (.ior, 1) := by decide +kernel
theorem dX6_yesOn_31 : decode cX6_yesOn 31 = .ok (.istore_n 2, 1) := by decide +kernel
theorem dX6_yesOn_32 : decode cX6_yesOn 32 = .ok (.iinc 3 1, 3) := by decide +kernel
theorem dX6_yesOn_35 : decode cX6_yesOn 35 = .ok (.goto (-31), 3) := by decide +kernel
theorem dX6_yesOn_38 : decode cX6_yesOn 38 = .ok (.iload_n 2, 1) := by decide +kernel
theorem dX6_yesOn_39 : decode cX6_yesOn 39 = .ok (.ireturn, 1) := by decide +kernel
theorem dX6_sample_0 : decode cX6_sample 0 = .ok (.aload_n 0, 1) := by decide +kernel
theorem dX6_sample_1 : decode cX6_sample 1 = .ok (.iload_n 1, 1) := by decide +kernel
theorem dX6_sample_2 : decode cX6_sample 2 = .ok (.invokevirtual 118, 3) := by decide +kernel
theorem dX6_sample_5 : decode cX6_sample 5 = .ok (.ifCond .ne 5, 3) := by decide +kernel
theorem dX6_sample_8 : decode cX6_sample 8 = .ok (.iconst (-1), 1) := by decide +kernel
theorem dX6_sample_9 : decode cX6_sample 9 = .ok (.ireturn, 1) := by decide +kernel
theorem dX6_sample_10 : decode cX6_sample 10 = .ok (.iload_n 2, 1) := by decide +kernel
theorem dX6_sample_11 : decode cX6_sample 11 = .ok (.tableswitch 67 0 3 #[29, 36, 42, 54], 29) := by decide +kernel
theorem dX6_sample_40 : decode cX6_sample 40 = .ok (.aload_n 0, 1) := by decide +kernel
theorem dX6_sample_41 : decode cX6_sample 41 = .ok (.getfield 19, 3) := by decide +kernel
theorem dX6_sample_44 : decode cX6_sample 44 = .ok (.iload_n 1, 1) := by decide +kernel
theorem dX6_sample_45 : decode cX6_sample 45 = .ok (.iaload, 1) := by decide +kernel
theorem dX6_sample_46 : decode cX6_sample 46 = .ok (.ireturn, 1) := by decide +kernel
theorem dX6_sample_47 : decode cX6_sample 47 = .ok (.aload_n 0, 1) := by decide +kernel
theorem dX6_sample_48 : decode cX6_sample 48 = .ok (.iload_n 1, 1) := by decide +kernel
theorem dX6_sample_49 : decode cX6_sample 49 = .ok (.invokevirtual 121, 3) := by decide +kernel
theorem dX6_sample_52 : decode cX6_sample 52 = .ok (.ireturn, 1) := by decide +kernel
theorem dX6_sample_53 : decode cX6_sample 53 = .ok (.aload_n 0, 1) := by decide +kernel
theorem dX6_sample_54 : decode cX6_sample 54 = .ok (.aload_n 0, 1) := by decide +kernel
theorem dX6_sample_55 : decode cX6_sample 55 = .ok (.getfield 22, 3) := by decide +kernel
theorem dX6_sample_58 : decode cX6_sample 58 = .ok (.iconst 5, 1) := by decide +kernel
theorem dX6_sample_59 : decode cX6_sample 59 = .ok (.iaload, 1) := by decide +kernel
theorem dX6_sample_60 : decode cX6_sample 60 = .ok (.iload_n 1, 1) := by decide +kernel
theorem dX6_sample_61 : decode cX6_sample 61 = .ok (.invokevirtual 125, 3) := by decide +kernel
theorem dX6_sample_64 : decode cX6_sample 64 = .ok (.ireturn, 1) := by decide +kernel
theorem dX6_sample_65 : decode cX6_sample 65 = .ok (.aload_n 0, 1) := by decide +kernel
theorem dX6_sample_66 : decode cX6_sample 66 = .ok (.aload_n 0, 1) := by decide +kernel
theorem dX6_sample_67 : decode cX6_sample 67 = .ok (.getfield 22, 3) := by decide +kernel
theorem dX6_sample_70 : decode cX6_sample 70 = .ok (.bipush 6, 2) := by decide +kernel
theorem dX6_sample_72 : decode cX6_sample 72 = .ok (.iaload, 1) := by decide +kernel
theorem dX6_sample_73 : decode cX6_sample 73 = .ok (.iload_n 1, 1) := by decide +kernel
theorem dX6_sample_74 : decode cX6_sample 74 = .ok (.invokevirtual 125, 3) := by decide +kernel
theorem dX6_sample_77 : decode cX6_sample 77 = .ok (.ireturn, 1) := by decide +kernel
theorem dX6_sample_78 : decode cX6_sample 78 = .ok (.bipush (-2), 2) := by decide +kernel
theorem dX6_sample_80 : decode cX6_sample 80 = .ok (.ireturn, 1) := by decide +kernel
theorem dX6_bright_0 : decode cX6_bright 0 = .ok (.aload_n 0, 1) := by decide +kernel
theorem dX6_bright_1 : decode cX6_bright 1 = .ok (.iload_n 1, 1) := by decide +kernel
theorem dX6_bright_2 : decode cX6_bright 2 = .ok (.invokevirtual 111, 3) := by decide +kernel
theorem dX6_bright_5 : decode cX6_bright 5 = .ok (.ifCond .eq 21, 3) := by decide +kernel
theorem dX6_bright_8 : decode cX6_bright 8 = .ok (.aload_n 0, 1) := by decide +kernel
theorem dX6_bright_9 : decode cX6_bright 9 = .ok (.iload_n 2, 1) := by decide +kernel
theorem dX6_bright_10 : decode cX6_bright 10 = .ok (.invokevirtual 118, 3) := by decide +kernel
theorem dX6_bright_13 : decode cX6_bright 13 = .ok (.ifCond .eq 13, 3) := by decide +kernel
theorem dX6_bright_16 : decode cX6_bright 16 = .ok (.aload_n 0, 1) := by decide +kernel
theorem dX6_bright_17 : decode cX6_bright 17 = .ok (.iconst 0, 1) := by decide +kernel
theorem dX6_bright_18 : decode cX6_bright 18 = .ok (.iload_n 1, 1) := by decide +kernel
theorem dX6_bright_19 : decode cX6_bright 19 = .ok (.iload_n 2, 1) := by decide +kernel
theorem dX6_bright_20 : decode cX6_bright 20 = .ok (.invokevirtual 99, 3) := by decide +kernel
theorem dX6_bright_23 : decode cX6_bright 23 = .ok (.goto 4, 3) := by decide +kernel
theorem dX6_bright_26 : decode cX6_bright 26 = .ok (.iconst (-1), 1) := by decide +kernel
theorem dX6_bright_27 : decode cX6_bright 27 = .ok (.ireturn, 1) := by decide +kernel
theorem dX6_keepAct_0 : decode cX6_keepAct 0 = .ok (.iconst 0, 1) := by decide +kernel
theorem dX6_keepAct_1 : decode cX6_keepAct 1 = .ok (.istore_n 1, 1) := by decide +kernel
theorem dX6_keepAct_2 : decode cX6_keepAct 2 = .ok (.iload_n 1, 1) := by decide +kernel
theorem dX6_keepAct_3 : decode cX6_keepAct 3 = .ok (.bipush 9, 2) := by decide +kernel
theorem dX6_keepAct_5 : decode cX6_keepAct 5 = .ok (.if_icmp .ge 29, 3) := by decide +kernel
theorem dX6_keepAct_8 : decode cX6_keepAct 8 = .ok (.aload_n 0, 1) := by decide +kernel
theorem dX6_keepAct_9 : decode cX6_keepAct 9 = .ok (.getfield 34, 3) := by decide +kernel
theorem dX6_keepAct_12 : decode cX6_keepAct 12 = .ok (.bipush 9, 2) := by decide +kernel
theorem dX6_keepAct_14 : decode cX6_keepAct 14 = .ok (.aload_n 0, 1) := by decide +kernel
theorem dX6_keepAct_15 : decode cX6_keepAct 15 = .ok (.getfield 128, 3) := by decide +kernel
theorem dX6_keepAct_18 : decode cX6_keepAct 18 = .ok (.imul, 1) := by decide +kernel
theorem dX6_keepAct_19 : decode cX6_keepAct 19 = .ok (.iload_n 1, 1) := by decide +kernel
theorem dX6_keepAct_20 : decode cX6_keepAct 20 = .ok (.iadd, 1) := by decide +kernel
theorem dX6_keepAct_21 : decode cX6_keepAct 21 = .ok (.aload_n 0, 1) := by decide +kernel
theorem dX6_keepAct_22 : decode cX6_keepAct 22 = .ok (.getfield 22, 3) := by decide +kernel
theorem dX6_keepAct_25 : decode cX6_keepAct 25 = .ok (.iload_n 1, 1) := by decide +kernel
theorem dX6_keepAct_26 : decode cX6_keepAct 26 = .ok (.iaload, 1) := by decide +kernel
theorem dX6_keepAct_27 : decode cX6_keepAct 27 = .ok (.iastore, 1) := by decide +kernel
theorem dX6_keepAct_28 : decode cX6_keepAct 28 = .ok (.iinc 1 1, 3) := by decide +kernel
theorem dX6_keepAct_31 : decode cX6_keepAct 31 = .ok (.goto (-29), 3) := by decide +kernel
theorem dX6_keepAct_34 : decode cX6_keepAct 34 = .ok (.aload_n 0, 1) := by decide +kernel
theorem dX6_keepAct_35 : decode cX6_keepAct 35 = .ok (.aload_n 0, 1) := by decide +kernel
theorem dX6_keepAct_36 : decode cX6_keepAct 36 = .ok (.getfield 128, 3) := by decide +kernel
theorem dX6_keepAct_39 : decode cX6_keepAct 39 = .ok (.iconst 1, 1) := by decide +kernel
theorem dX6_keepAct_40 : decode cX6_keepAct 40 = .ok (.iadd, 1) := by decide +kernel
theorem dX6_keepAct_41 : decode cX6_keepAct 41 = .ok (.bipush 14, 2) := by decide +kernel
theorem dX6_keepAct_43 : decode cX6_keepAct 43 = .ok (.irem, 1) := by decide +kernel
theorem dX6_keepAct_44 : decode cX6_keepAct 44 = .ok (.putfield 128, 3) := by decide +kernel
theorem dX6_keepAct_47 : decode cX6_keepAct 47 = .ok (.aload_n 0, 1) := by decide +kernel
theorem dX6_keepAct_48 : decode cX6_keepAct 48 = .ok (.aload_n 0, 1) := by decide +kernel
theorem dX6_keepAct_49 : decode cX6_keepAct 49 = .ok (.getfield 92, 3) := by decide +kernel
theorem dX6_keepAct_52 : decode cX6_keepAct 52 = .ok (.bipush 14, 2) := by decide +kernel
theorem dX6_keepAct_54 : decode cX6_keepAct 54 = .ok (.if_icmp .ge 12, 3) := by decide +kernel
theorem dX6_keepAct_57 : decode cX6_keepAct 57 = .ok (.aload_n 0, 1) := by decide +kernel
theorem dX6_keepAct_58 : decode cX6_keepAct 58 = .ok (.getfield 92, 3) := by decide +kernel
theorem dX6_keepAct_61 : decode cX6_keepAct 61 = .ok (.iconst 1, 1) := by decide +kernel
theorem dX6_keepAct_62 : decode cX6_keepAct 62 = .ok (.iadd, 1) := by decide +kernel
theorem dX6_keepAct_63 : decode cX6_keepAct 63 = .ok (.goto 5, 3) := by decide +kernel
theorem dX6_keepAct_66 : decode cX6_keepAct 66 = .ok (.bipush 14, 2) := by decide +kernel
theorem dX6_keepAct_68 : decode cX6_keepAct 68 = .ok (.putfield 92, 3) := by decide +kernel
theorem dX6_keepAct_71 : decode cX6_keepAct 71 = .ok (.return_, 1) := by decide +kernel
theorem dX6_read_0 : decode cX6_read 0 = .ok (.aload_n 0, 1) := by decide +kernel
theorem dX6_read_1 : decode cX6_read 1 = .ok (.iload_n 1, 1) := by decide +kernel
theorem dX6_read_2 : decode cX6_read 2 = .ok (.invokevirtual 111, 3) := by decide +kernel
theorem dX6_read_5 : decode cX6_read 5 = .ok (.ifCond .eq 11, 3) := by decide +kernel
theorem dX6_read_8 : decode cX6_read 8 = .ok (.aload_n 0, 1) := by decide +kernel
theorem dX6_read_9 : decode cX6_read 9 = .ok (.iload_n 2, 1) := by decide +kernel
theorem dX6_read_10 : decode cX6_read 10 = .ok (.invokevirtual 118, 3) := by decide +kernel
theorem dX6_read_13 : decode cX6_read 13 = .ok (.ifCond .ne 5, 3) := by decide +kernel
theorem dX6_read_16 : decode cX6_read 16 = .ok (.iconst (-1), 1) := by decide +kernel
theorem dX6_read_17 : decode cX6_read 17 = .ok (.ireturn, 1) := by decide +kernel
theorem dX6_read_18 : decode cX6_read 18 = .ok (.aload_n 0, 1) := by decide +kernel
theorem dX6_read_19 : decode cX6_read 19 = .ok (.invokevirtual 131, 3) := by decide +kernel
theorem dX6_read_22 : decode cX6_read 22 = .ok (.aload_n 0, 1) := by decide +kernel
theorem dX6_read_23 : decode cX6_read 23 = .ok (.iconst 0, 1) := by decide +kernel
theorem dX6_read_24 : decode cX6_read 24 = .ok (.iload_n 1, 1) := by decide +kernel
theorem dX6_read_25 : decode cX6_read 25 = .ok (.iload_n 2, 1) := by decide +kernel
theorem dX6_read_26 : decode cX6_read 26 = .ok (.invokevirtual 134, 3) := by decide +kernel
theorem dX6_read_29 : decode cX6_read 29 = .ok (.ifCond .eq 7, 3) := by decide +kernel
theorem dX6_read_32 : decode cX6_read 32 = .ok (.iconst 1, 1) := by decide +kernel
theorem dX6_read_33 : decode cX6_read 33 = .ok (.goto 4, 3) := by decide +kernel
theorem dX6_read_36 : decode cX6_read 36 = .ok (.iconst 0, 1) := by decide +kernel
theorem dX6_read_37 : decode cX6_read 37 = .ok (.ireturn, 1) := by decide +kernel
theorem dX6_rest_0 : decode cX6_rest 0 = .ok (.aload_n 0, 1) := by decide +kernel
theorem dX6_rest_1 : decode cX6_rest 1 = .ok (.iload_n 1, 1) := by decide +kernel
theorem dX6_rest_2 : decode cX6_rest 2 = .ok (.invokevirtual 111, 3) := by decide +kernel
theorem dX6_rest_5 : decode cX6_rest 5 = .ok (.ifCond .ne 5, 3) := by decide +kernel
theorem dX6_rest_8 : decode cX6_rest 8 = .ok (.iconst (-1), 1) := by decide +kernel
theorem dX6_rest_9 : decode cX6_rest 9 = .ok (.ireturn, 1) := by decide +kernel
theorem dX6_rest_10 : decode cX6_rest 10 = .ok (.aload_n 0, 1) := by decide +kernel
theorem dX6_rest_11 : decode cX6_rest 11 = .ok (.getfield 22, 3) := by decide +kernel
theorem dX6_rest_14 : decode cX6_rest 14 = .ok (.iload_n 1, 1) := by decide +kernel
theorem dX6_rest_15 : decode cX6_rest 15 = .ok (.iaload, 1) := by decide +kernel
theorem dX6_rest_16 : decode cX6_rest 16 = .ok (.istore_n 2, 1) := by decide +kernel
theorem dX6_rest_17 : decode cX6_rest 17 = .ok (.iload_n 2, 1) := by decide +kernel
theorem dX6_rest_18 : decode cX6_rest 18 = .ok (.ifCond .ne 6, 3) := by decide +kernel
theorem dX6_rest_21 : decode cX6_rest 21 = .ok (.bipush (-3), 2) := by decide +kernel
theorem dX6_rest_23 : decode cX6_rest 23 = .ok (.ireturn, 1) := by decide +kernel
theorem dX6_rest_24 : decode cX6_rest 24 = .ok (.aload_n 0, 1) := by decide +kernel
theorem dX6_rest_25 : decode cX6_rest 25 = .ok (.invokevirtual 131, 3) := by decide +kernel
theorem dX6_rest_28 : decode cX6_rest 28 = .ok (.aload_n 0, 1) := by decide +kernel
theorem dX6_rest_29 : decode cX6_rest 29 = .ok (.getfield 22, 3) := by decide +kernel
theorem dX6_rest_32 : decode cX6_rest 32 = .ok (.iload_n 1, 1) := by decide +kernel
theorem dX6_rest_33 : decode cX6_rest 33 = .ok (.iconst 0, 1) := by decide +kernel
theorem dX6_rest_34 : decode cX6_rest 34 = .ok (.iastore, 1) := by decide +kernel
theorem dX6_rest_35 : decode cX6_rest 35 = .ok (.iload_n 2, 1) := by decide +kernel
theorem dX6_rest_36 : decode cX6_rest 36 = .ok (.ireturn, 1) := by decide +kernel
theorem dX6_withdraw_0 : decode cX6_withdraw 0 = .ok (.aload_n 0, 1) := by decide +kernel
theorem dX6_withdraw_1 : decode cX6_withdraw 1 = .ok (.iload_n 1, 1) := by decide +kernel
theorem dX6_withdraw_2 : decode cX6_withdraw 2 = .ok (.invokevirtual 111, 3) := by decide +kernel
theorem dX6_withdraw_5 : decode cX6_withdraw 5 = .ok (.ifCond .eq 11, 3) := by decide +kernel
theorem dX6_withdraw_8 : decode cX6_withdraw 8 = .ok (.aload_n 0, 1) := by decide +kernel
theorem dX6_withdraw_9 : decode cX6_withdraw 9 = .ok (.iload_n 2, 1) := by decide +kernel
theorem dX6_withdraw_10 : decode cX6_withdraw 10 = .ok (.invokevirtual 118, 3) := by decide +kernel
theorem dX6_withdraw_13 : decode cX6_withdraw 13 = .ok (.ifCond .ne 5, 3) := by decide +kernel
theorem dX6_withdraw_16 : decode cX6_withdraw 16 = .ok (.iconst (-1), 1) := by decide +kernel
theorem dX6_withdraw_17 : decode cX6_withdraw 17 = .ok (.ireturn, 1) := by decide +kernel
theorem dX6_withdraw_18 : decode cX6_withdraw 18 = .ok (.iconst 4, 1) := by decide +kernel
theorem dX6_withdraw_19 : decode cX6_withdraw 19 = .ok (.iload_n 1, 1) := by decide +kernel
theorem dX6_withdraw_20 : decode cX6_withdraw 20 = .ok (.imul, 1) := by decide +kernel
theorem dX6_withdraw_21 : decode cX6_withdraw 21 = .ok (.iload_n 2, 1) := by decide +kernel
theorem dX6_withdraw_22 : decode cX6_withdraw 22 = .ok (.iadd, 1) := by decide +kernel
theorem dX6_withdraw_23 : decode cX6_withdraw 23 = .ok (.istore_n 3, 1) := by decide +kernel
theorem dX6_withdraw_24 : decode cX6_withdraw 24 = .ok (.aload_n 0, 1) := by decide +kernel
theorem dX6_withdraw_25 : decode cX6_withdraw 25 = .ok (.getfield 22, 3) := by decide +kernel
theorem dX6_withdraw_28 : decode cX6_withdraw 28 = .ok (.iconst 5, 1) := by decide +kernel
theorem dX6_withdraw_29 : decode cX6_withdraw 29 = .ok (.iaload, 1) := by decide +kernel
theorem dX6_withdraw_30 : decode cX6_withdraw 30 = .ok (.iload_n 3, 1) := by decide +kernel
theorem dX6_withdraw_31 : decode cX6_withdraw 31 = .ok (.invokestatic 115, 3) := by decide +kernel
theorem dX6_withdraw_34 : decode cX6_withdraw 34 = .ok (.istore 4, 2) := by decide +kernel
theorem dX6_withdraw_36 : decode cX6_withdraw 36 = .ok (.iload 4, 2) := by decide +kernel
theorem dX6_withdraw_38 : decode cX6_withdraw 38 = .ok (.ifCond .ne 20, 3) := by decide +kernel
theorem dX6_withdraw_41 : decode cX6_withdraw 41 = .ok (.aload_n 0, 1) := by decide +kernel
theorem dX6_withdraw_42 : decode cX6_withdraw 42 = .ok (.getfield 22, 3) := by decide +kernel
theorem dX6_withdraw_45 : decode cX6_withdraw 45 = .ok (.bipush 6, 2) := by decide +kernel
theorem dX6_withdraw_47 : decode cX6_withdraw 47 = .ok (.iaload, 1) := by decide +kernel
theorem dX6_withdraw_48 : decode cX6_withdraw 48 = .ok (.iload_n 3, 1) := by decide +kernel
theorem dX6_withdraw_49 : decode cX6_withdraw 49 = .ok (.invokestatic 115, 3) := by decide +kernel
theorem dX6_withdraw_52 : decode cX6_withdraw 52 = .ok (.ifCond .ne 6, 3) := by decide +kernel
theorem dX6_withdraw_55 : decode cX6_withdraw 55 = .ok (.bipush (-3), 2) := by decide +kernel
theorem dX6_withdraw_57 : decode cX6_withdraw 57 = .ok (.ireturn, 1) := by decide +kernel
theorem dX6_withdraw_58 : decode cX6_withdraw 58 = .ok (.aload_n 0, 1) := by decide +kernel
theorem dX6_withdraw_59 : decode cX6_withdraw 59 = .ok (.invokevirtual 131, 3) := by decide +kernel
theorem dX6_withdraw_62 : decode cX6_withdraw 62 = .ok (.aload_n 0, 1) := by decide +kernel
theorem dX6_withdraw_63 : decode cX6_withdraw 63 = .ok (.getfield 22, 3) := by decide +kernel
theorem dX6_withdraw_66 : decode cX6_withdraw 66 = .ok (.iconst 5, 1) := by decide +kernel
theorem dX6_withdraw_67 : decode cX6_withdraw 67 = .ok (.dup2, 1) := by decide +kernel
theorem dX6_withdraw_68 : decode cX6_withdraw 68 = .ok (.iaload, 1) := by decide +kernel
theorem dX6_withdraw_69 : decode cX6_withdraw 69 = .ok (.iconst 1, 1) := by decide +kernel
theorem dX6_withdraw_70 : decode cX6_withdraw 70 = .ok (.iload_n 3, 1) := by decide +kernel
theorem dX6_withdraw_71 : decode cX6_withdraw 71 = .ok (.ishl, 1) := by decide +kernel
theorem dX6_withdraw_72 : decode cX6_withdraw 72 = .ok (.iconst (-1), 1) := by decide +kernel
theorem dX6_withdraw_73 : decode cX6_withdraw 73 = .ok (.ixor, 1) := by decide +kernel
theorem dX6_withdraw_74 : decode cX6_withdraw 74 = .ok (.iand, 1) := by decide +kernel
theorem dX6_withdraw_75 : decode cX6_withdraw 75 = .ok (.iastore, 1) := by decide +kernel
theorem dX6_withdraw_76 : decode cX6_withdraw 76 = .ok (.aload_n 0, 1) := by decide +kernel
theorem dX6_withdraw_77 : decode cX6_withdraw 77 = .ok (.getfield 22, 3) := by decide +kernel
theorem dX6_withdraw_80 : decode cX6_withdraw 80 = .ok (.bipush 6, 2) := by decide +kernel
theorem dX6_withdraw_82 : decode cX6_withdraw 82 = .ok (.dup2, 1) := by decide +kernel
theorem dX6_withdraw_83 : decode cX6_withdraw 83 = .ok (.iaload, 1) := by decide +kernel
theorem dX6_withdraw_84 : decode cX6_withdraw 84 = .ok (.iconst 1, 1) := by decide +kernel
theorem dX6_withdraw_85 : decode cX6_withdraw 85 = .ok (.iload_n 3, 1) := by decide +kernel
theorem dX6_withdraw_86 : decode cX6_withdraw 86 = .ok (.ishl, 1) := by decide +kernel
theorem dX6_withdraw_87 : decode cX6_withdraw 87 = .ok (.iconst (-1), 1) := by decide +kernel
theorem dX6_withdraw_88 : decode cX6_withdraw 88 = .ok (.ixor, 1) := by decide +kernel
theorem dX6_withdraw_89 : decode cX6_withdraw 89 = .ok (.iand, 1) := by decide +kernel
theorem dX6_withdraw_90 : decode cX6_withdraw 90 = .ok (.iastore, 1) := by decide +kernel
theorem dX6_withdraw_91 : decode cX6_withdraw 91 = .ok (.iload 4, 2) := by decide +kernel
theorem dX6_withdraw_93 : decode cX6_withdraw 93 = .ok (.ifCond .eq 7, 3) := by decide +kernel
theorem dX6_withdraw_96 : decode cX6_withdraw 96 = .ok (.iconst 1, 1) := by decide +kernel
theorem dX6_withdraw_97 : decode cX6_withdraw 97 = .ok (.goto 4, 3) := by decide +kernel
theorem dX6_withdraw_100 : decode cX6_withdraw 100 = .ok (.iconst 0, 1) := by decide +kernel
theorem dX6_withdraw_101 : decode cX6_withdraw 101 = .ok (.ireturn, 1) := by decide +kernel
theorem dX6_prism_0 : decode cX6_prism 0 = .ok (.aload_n 0, 1) := by decide +kernel
theorem dX6_prism_1 : decode cX6_prism 1 = .ok (.invokevirtual 131, 3) := by decide +kernel
theorem dX6_prism_4 : decode cX6_prism 4 = .ok (.aload_n 0, 1) := by decide +kernel
theorem dX6_prism_5 : decode cX6_prism 5 = .ok (.getfield 22, 3) := by decide +kernel
theorem dX6_prism_8 : decode cX6_prism 8 = .ok (.bipush 7, 2) := by decide +kernel
theorem dX6_prism_10 : decode cX6_prism 10 = .ok (.iconst 1, 1) := by decide +kernel
theorem dX6_prism_11 : decode cX6_prism 11 = .ok (.aload_n 0, 1) := by decide +kernel
theorem dX6_prism_12 : decode cX6_prism 12 = .ok (.getfield 22, 3) := by decide +kernel
theorem dX6_prism_15 : decode cX6_prism 15 = .ok (.bipush 7, 2) := by decide +kernel
theorem dX6_prism_17 : decode cX6_prism 17 = .ok (.iaload, 1) := by decide +kernel
theorem dX6_prism_18 : decode cX6_prism 18 = .ok (.isub, 1) := by decide +kernel
theorem dX6_prism_19 : decode cX6_prism 19 = .ok (.iastore, 1) := by decide +kernel
theorem dX6_prism_20 : decode cX6_prism 20 = .ok (.aload_n 0, 1) := by decide +kernel
theorem dX6_prism_21 : decode cX6_prism 21 = .ok (.getfield 22, 3) := by decide +kernel
theorem dX6_prism_24 : decode cX6_prism 24 = .ok (.bipush 7, 2) := by decide +kernel
theorem dX6_prism_26 : decode cX6_prism 26 = .ok (.iaload, 1) := by decide +kernel
theorem dX6_prism_27 : decode cX6_prism 27 = .ok (.ireturn, 1) := by decide +kernel
theorem dX6_tell_0 : decode cX6_tell 0 = .ok (.aload_n 0, 1) := by decide +kernel
theorem dX6_tell_1 : decode cX6_tell 1 = .ok (.invokevirtual 131, 3) := by decide +kernel
theorem dX6_tell_4 : decode cX6_tell 4 = .ok (.aload_n 0, 1) := by decide +kernel
theorem dX6_tell_5 : decode cX6_tell 5 = .ok (.getfield 22, 3) := by decide +kernel
theorem dX6_tell_8 : decode cX6_tell 8 = .ok (.bipush 8, 2) := by decide +kernel
theorem dX6_tell_10 : decode cX6_tell 10 = .ok (.iconst 1, 1) := by decide +kernel
theorem dX6_tell_11 : decode cX6_tell 11 = .ok (.aload_n 0, 1) := by decide +kernel
theorem dX6_tell_12 : decode cX6_tell 12 = .ok (.getfield 22, 3) := by decide +kernel
theorem dX6_tell_15 : decode cX6_tell 15 = .ok (.bipush 8, 2) := by decide +kernel
theorem dX6_tell_17 : decode cX6_tell 17 = .ok (.iaload, 1) := by decide +kernel
theorem dX6_tell_18 : decode cX6_tell 18 = .ok (.isub, 1) := by decide +kernel
theorem dX6_tell_19 : decode cX6_tell 19 = .ok (.iastore, 1) := by decide +kernel
theorem dX6_tell_20 : decode cX6_tell 20 = .ok (.aload_n 0, 1) := by decide +kernel
theorem dX6_tell_21 : decode cX6_tell 21 = .ok (.getfield 22, 3) := by decide +kernel
theorem dX6_tell_24 : decode cX6_tell 24 = .ok (.bipush 8, 2) := by decide +kernel
theorem dX6_tell_26 : decode cX6_tell 26 = .ok (.iaload, 1) := by decide +kernel
theorem dX6_tell_27 : decode cX6_tell 27 = .ok (.ireturn, 1) := by decide +kernel
theorem dX6_undo_0 : decode cX6_undo 0 = .ok (.aload_n 0, 1) := by decide +kernel
theorem dX6_undo_1 : decode cX6_undo 1 = .ok (.getfield 92, 3) := by decide +kernel
theorem dX6_undo_4 : decode cX6_undo 4 = .ok (.ifCond .ne 6, 3) := by decide +kernel
theorem dX6_undo_7 : decode cX6_undo 7 = .ok (.bipush (-3), 2) := by decide +kernel
theorem dX6_undo_9 : decode cX6_undo 9 = .ok (.ireturn, 1) := by decide +kernel
theorem dX6_undo_10 : decode cX6_undo 10 = .ok (.aload_n 0, 1) := by decide +kernel
theorem dX6_undo_11 : decode cX6_undo 11 = .ok (.dup, 1) := by decide +kernel
theorem dX6_undo_12 : decode cX6_undo 12 = .ok (.getfield 92, 3) := by decide +kernel
theorem dX6_undo_15 : decode cX6_undo 15 = .ok (.iconst 1, 1) := by decide +kernel
theorem dX6_undo_16 : decode cX6_undo 16 = .ok (.isub, 1) := by decide +kernel
theorem dX6_undo_17 : decode cX6_undo 17 = .ok (.putfield 92, 3) := by decide +kernel
theorem dX6_undo_20 : decode cX6_undo 20 = .ok (.aload_n 0, 1) := by decide +kernel
theorem dX6_undo_21 : decode cX6_undo 21 = .ok (.aload_n 0, 1) := by decide +kernel
theorem dX6_undo_22 : decode cX6_undo 22 = .ok (.getfield 128, 3) := by decide +kernel
theorem dX6_undo_25 : decode cX6_undo 25 = .ok (.bipush 13, 2) := by decide +kernel
theorem dX6_undo_27 : decode cX6_undo 27 = .ok (.iadd, 1) := by decide +kernel
theorem dX6_undo_28 : decode cX6_undo 28 = .ok (.bipush 14, 2) := by decide +kernel
theorem dX6_undo_30 : decode cX6_undo 30 = .ok (.irem, 1) := by decide +kernel
theorem dX6_undo_31 : decode cX6_undo 31 = .ok (.putfield 128, 3) := by decide +kernel
theorem dX6_undo_34 : decode cX6_undo 34 = .ok (.iconst 0, 1) := by decide +kernel
theorem dX6_undo_35 : decode cX6_undo 35 = .ok (.istore_n 1, 1) := by decide +kernel
theorem dX6_undo_36 : decode cX6_undo 36 = .ok (.iload_n 1, 1) := by decide +kernel
theorem dX6_undo_37 : decode cX6_undo 37 = .ok (.bipush 9, 2) := by decide +kernel
theorem dX6_undo_39 : decode cX6_undo 39 = .ok (.if_icmp .ge 29, 3) := by decide +kernel
theorem dX6_undo_42 : decode cX6_undo 42 = .ok (.aload_n 0, 1) := by decide +kernel
theorem dX6_undo_43 : decode cX6_undo 43 = .ok (.getfield 22, 3) := by decide +kernel
theorem dX6_undo_46 : decode cX6_undo 46 = .ok (.iload_n 1, 1) := by decide +kernel
theorem dX6_undo_47 : decode cX6_undo 47 = .ok (.aload_n 0, 1) := by decide +kernel
theorem dX6_undo_48 : decode cX6_undo 48 = .ok (.getfield 34, 3) := by decide +kernel
theorem dX6_undo_51 : decode cX6_undo 51 = .ok (.bipush 9, 2) := by decide +kernel
theorem dX6_undo_53 : decode cX6_undo 53 = .ok (.aload_n 0, 1) := by decide +kernel
theorem dX6_undo_54 : decode cX6_undo 54 = .ok (.getfield 128, 3) := by decide +kernel
theorem dX6_undo_57 : decode cX6_undo 57 = .ok (.imul, 1) := by decide +kernel
theorem dX6_undo_58 : decode cX6_undo 58 = .ok (.iload_n 1, 1) := by decide +kernel
theorem dX6_undo_59 : decode cX6_undo 59 = .ok (.iadd, 1) := by decide +kernel
theorem dX6_undo_60 : decode cX6_undo 60 = .ok (.iaload, 1) := by decide +kernel
theorem dX6_undo_61 : decode cX6_undo 61 = .ok (.iastore, 1) := by decide +kernel
theorem dX6_undo_62 : decode cX6_undo 62 = .ok (.iinc 1 1, 3) := by decide +kernel
theorem dX6_undo_65 : decode cX6_undo 65 = .ok (.goto (-29), 3) := by decide +kernel
theorem dX6_undo_68 : decode cX6_undo 68 = .ok (.aload_n 0, 1) := by decide +kernel
theorem dX6_undo_69 : decode cX6_undo 69 = .ok (.getfield 92, 3) := by decide +kernel
theorem dX6_undo_72 : decode cX6_undo 72 = .ok (.ireturn, 1) := by decide +kernel
theorem dX6_fooled_0 : decode cX6_fooled 0 = .ok (.aload_n 0, 1) := by decide +kernel
theorem dX6_fooled_1 : decode cX6_fooled 1 = .ok (.iload_n 1, 1) := by decide +kernel
theorem dX6_fooled_2 : decode cX6_fooled 2 = .ok (.invokevirtual 118, 3) := by decide +kernel
theorem dX6_fooled_5 : decode cX6_fooled 5 = .ok (.ifCond .ne 5, 3) := by decide +kernel
theorem dX6_fooled_8 : decode cX6_fooled 8 = .ok (.iconst (-1), 1) := by decide +kernel
theorem dX6_fooled_9 : decode cX6_fooled 9 = .ok (.ireturn, 1) := by decide +kernel
theorem dX6_fooled_10 : decode cX6_fooled 10 = .ok (.iconst 0, 1) := by decide +kernel
theorem dX6_fooled_11 : decode cX6_fooled 11 = .ok (.istore_n 2, 1) := by decide +kernel
theorem dX6_fooled_12 : decode cX6_fooled 12 = .ok (.iconst 0, 1) := by decide +kernel
theorem dX6_fooled_13 : decode cX6_fooled 13 = .ok (.istore_n 3, 1) := by decide +kernel
theorem dX6_fooled_14 : decode cX6_fooled 14 = .ok (.iload_n 3, 1) := by decide +kernel
theorem dX6_fooled_15 : decode cX6_fooled 15 = .ok (.aload_n 0, 1) := by decide +kernel
theorem dX6_fooled_16 : decode cX6_fooled 16 = .ok (.getfield 86, 3) := by decide +kernel
theorem dX6_fooled_19 : decode cX6_fooled 19 = .ok (.if_icmp .ge 46, 3) := by decide +kernel
theorem dX6_fooled_22 : decode cX6_fooled 22 = .ok (.iload_n 2, 1) := by decide +kernel
theorem dX6_fooled_23 : decode cX6_fooled 23 = .ok (.aload_n 0, 1) := by decide +kernel
theorem dX6_fooled_24 : decode cX6_fooled 24 = .ok (.iload_n 3, 1) := by decide +kernel
theorem dX6_fooled_25 : decode cX6_fooled 25 = .ok (.aload_n 0, 1) := by decide +kernel
theorem dX6_fooled_26 : decode cX6_fooled 26 = .ok (.iload_n 3, 1) := by decide +kernel
theorem dX6_fooled_27 : decode cX6_fooled 27 = .ok (.aload_n 0, 1) := by decide +kernel
theorem dX6_fooled_28 : decode cX6_fooled 28 = .ok (.getfield 7, 3) := by decide +kernel
theorem dX6_fooled_31 : decode cX6_fooled 31 = .ok (.iload_n 3, 1) := by decide +kernel
theorem dX6_fooled_32 : decode cX6_fooled 32 = .ok (.iaload, 1) := by decide +kernel
theorem dX6_fooled_33 : decode cX6_fooled 33 = .ok (.iconst 0, 1) := by decide +kernel
theorem dX6_fooled_34 : decode cX6_fooled 34 = .ok (.iconst 1, 1) := by decide +kernel
theorem dX6_fooled_35 : decode cX6_fooled 35 = .ok (.aload_n 0, 1) := by decide +kernel
theorem dX6_fooled_36 : decode cX6_fooled 36 = .ok (.getfield 22, 3) := by decide +kernel
theorem dX6_fooled_39 : decode cX6_fooled 39 = .ok (.iload_n 3, 1) := by decide +kernel
theorem dX6_fooled_40 : decode cX6_fooled 40 = .ok (.iaload, 1) := by decide +kernel
theorem dX6_fooled_41 : decode cX6_fooled 41 = .ok (.invokevirtual 95, 3) := by decide +kernel
theorem dX6_fooled_44 : decode cX6_fooled 44 = .ok (.invokevirtual 103, 3) := by decide +kernel
theorem dX6_fooled_47 : decode cX6_fooled 47 = .ok (.ifCond .eq 9, 3) := by decide +kernel
theorem dX6_fooled_50 : decode cX6_fooled 50 = .ok (.iconst 1, 1) := by decide +kernel
theorem dX6_fooled_51 : decode cX6_fooled 51 = .ok (.iload_n 3, 1) := by decide +kernel
theorem dX6_fooled_52 : decode cX6_fooled 52 = .ok (.ishl, 1) := by decide +kernel
theorem dX6_fooled_53 : decode cX6_fooled 53 = .ok (.goto 4, 3) := by decide +kernel
theorem dX6_fooled_56 : decode cX6_fooled 56 = .ok (.iconst 0, 1) := by decide +kernel
theorem dX6_fooled_57 : decode cX6_fooled 57 = .ok (.ior, 1) := by decide +kernel
theorem dX6_fooled_58 : decode cX6_fooled 58 = .ok (.istore_n 2, 1) := by decide +kernel
theorem dX6_fooled_59 : decode cX6_fooled 59 = .ok (.iinc 3 1, 3) := by decide +kernel
theorem dX6_fooled_62 : decode cX6_fooled 62 = .ok (.goto (-48), 3) := by decide +kernel
theorem dX6_fooled_65 : decode cX6_fooled 65 = .ok (.iload_n 2, 1) := by decide +kernel
theorem dX6_fooled_66 : decode cX6_fooled 66 = .ok (.ireturn, 1) := by decide +kernel
theorem dX6_truly_0 : decode cX6_truly 0 = .ok (.aload_n 0, 1) := by decide +kernel
theorem dX6_truly_1 : decode cX6_truly 1 = .ok (.iload_n 1, 1) := by decide +kernel
theorem dX6_truly_2 : decode cX6_truly 2 = .ok (.invokevirtual 118, 3) := by decide +kernel
theorem dX6_truly_5 : decode cX6_truly 5 = .ok (.ifCond .ne 5, 3) := by decide +kernel
theorem dX6_truly_8 : decode cX6_truly 8 = .ok (.iconst (-1), 1) := by decide +kernel
theorem dX6_truly_9 : decode cX6_truly 9 = .ok (.ireturn, 1) := by decide +kernel
theorem dX6_truly_10 : decode cX6_truly 10 = .ok (.iconst 0, 1) := by decide +kernel
theorem dX6_truly_11 : decode cX6_truly 11 = .ok (.istore_n 2, 1) := by decide +kernel
theorem dX6_truly_12 : decode cX6_truly 12 = .ok (.iconst 0, 1) := by decide +kernel
theorem dX6_truly_13 : decode cX6_truly 13 = .ok (.istore_n 3, 1) := by decide +kernel
theorem dX6_truly_14 : decode cX6_truly 14 = .ok (.iload_n 3, 1) := by decide +kernel
theorem dX6_truly_15 : decode cX6_truly 15 = .ok (.aload_n 0, 1) := by decide +kernel
theorem dX6_truly_16 : decode cX6_truly 16 = .ok (.getfield 86, 3) := by decide +kernel
theorem dX6_truly_19 : decode cX6_truly 19 = .ok (.if_icmp .ge 86, 3) := by decide +kernel
theorem dX6_truly_22 : decode cX6_truly 22 = .ok (.aload_n 0, 1) := by decide +kernel
theorem dX6_truly_23 : decode cX6_truly 23 = .ok (.iload_n 3, 1) := by decide +kernel
theorem dX6_truly_24 : decode cX6_truly 24 = .ok (.aload_n 0, 1) := by decide +kernel
theorem dX6_truly_25 : decode cX6_truly 25 = .ok (.iload_n 3, 1) := by decide +kernel
theorem dX6_truly_26 : decode cX6_truly 26 = .ok (.aload_n 0, 1) := by decide +kernel
theorem dX6_truly_27 : decode cX6_truly 27 = .ok (.getfield 7, 3) := by decide +kernel
theorem dX6_truly_30 : decode cX6_truly 30 = .ok (.iload_n 3, 1) := by decide +kernel
theorem dX6_truly_31 : decode cX6_truly 31 = .ok (.iaload, 1) := by decide +kernel
theorem dX6_truly_32 : decode cX6_truly 32 = .ok (.aload_n 0, 1) := by decide +kernel
theorem dX6_truly_33 : decode cX6_truly 33 = .ok (.getfield 19, 3) := by decide +kernel
theorem dX6_truly_36 : decode cX6_truly 36 = .ok (.iload_n 1, 1) := by decide +kernel
theorem dX6_truly_37 : decode cX6_truly 37 = .ok (.iaload, 1) := by decide +kernel
theorem dX6_truly_38 : decode cX6_truly 38 = .ok (.iconst 0, 1) := by decide +kernel
theorem dX6_truly_39 : decode cX6_truly 39 = .ok (.aload_n 0, 1) := by decide +kernel
theorem dX6_truly_40 : decode cX6_truly 40 = .ok (.getfield 22, 3) := by decide +kernel
theorem dX6_truly_43 : decode cX6_truly 43 = .ok (.iload_n 3, 1) := by decide +kernel
theorem dX6_truly_44 : decode cX6_truly 44 = .ok (.iaload, 1) := by decide +kernel
theorem dX6_truly_45 : decode cX6_truly 45 = .ok (.invokevirtual 95, 3) := by decide +kernel
theorem dX6_truly_48 : decode cX6_truly 48 = .ok (.invokevirtual 103, 3) := by decide +kernel
theorem dX6_truly_51 : decode cX6_truly 51 = .ok (.istore 4, 2) := by decide +kernel
theorem dX6_truly_53 : decode cX6_truly 53 = .ok (.aload_n 0, 1) := by decide +kernel
theorem dX6_truly_54 : decode cX6_truly 54 = .ok (.iload_n 3, 1) := by decide +kernel
theorem dX6_truly_55 : decode cX6_truly 55 = .ok (.aload_n 0, 1) := by decide +kernel
theorem dX6_truly_56 : decode cX6_truly 56 = .ok (.iload_n 3, 1) := by decide +kernel
theorem dX6_truly_57 : decode cX6_truly 57 = .ok (.aload_n 0, 1) := by decide +kernel
theorem dX6_truly_58 : decode cX6_truly 58 = .ok (.getfield 7, 3) := by decide +kernel
theorem dX6_truly_61 : decode cX6_truly 61 = .ok (.iload_n 3, 1) := by decide +kernel
theorem dX6_truly_62 : decode cX6_truly 62 = .ok (.iaload, 1) := by decide +kernel
theorem dX6_truly_63 : decode cX6_truly 63 = .ok (.iconst 0, 1) := by decide +kernel
theorem dX6_truly_64 : decode cX6_truly 64 = .ok (.iconst 0, 1) := by decide +kernel
theorem dX6_truly_65 : decode cX6_truly 65 = .ok (.aload_n 0, 1) := by decide +kernel
theorem dX6_truly_66 : decode cX6_truly 66 = .ok (.getfield 22, 3) := by decide +kernel
theorem dX6_truly_69 : decode cX6_truly 69 = .ok (.iload_n 3, 1) := by decide +kernel
theorem dX6_truly_70 : decode cX6_truly 70 = .ok (.iaload, 1) := by decide +kernel
theorem dX6_truly_71 : decode cX6_truly 71 = .ok (.invokevirtual 95, 3) := by decide +kernel
theorem dX6_truly_74 : decode cX6_truly 74 = .ok (.invokevirtual 103, 3) := by decide +kernel
theorem dX6_truly_77 : decode cX6_truly 77 = .ok (.istore 5, 2) := by decide +kernel
theorem dX6_truly_79 : decode cX6_truly 79 = .ok (.iload_n 2, 1) := by decide +kernel
theorem dX6_truly_80 : decode cX6_truly 80 = .ok (.iload 4, 2) := by decide +kernel
theorem dX6_truly_82 : decode cX6_truly 82 = .ok (.ifCond .eq 14, 3) := by decide +kernel
theorem dX6_truly_85 : decode cX6_truly 85 = .ok (.iload 5, 2) := by decide +kernel
theorem dX6_truly_87 : decode cX6_truly 87 = .ok (.ifCond .ne 9, 3) := by decide +kernel
theorem dX6_truly_90 : decode cX6_truly 90 = .ok (.iconst 1, 1) := by decide +kernel
theorem dX6_truly_91 : decode cX6_truly 91 = .ok (.iload_n 3, 1) := by decide +kernel
theorem dX6_truly_92 : decode cX6_truly 92 = .ok (.ishl, 1) := by decide +kernel
theorem dX6_truly_93 : decode cX6_truly 93 = .ok (.goto 4, 3) := by decide +kernel
theorem dX6_truly_96 : decode cX6_truly 96 = .ok (.iconst 0, 1) := by decide +kernel
theorem dX6_truly_97 : decode cX6_truly 97 = .ok (.ior, 1) := by decide +kernel
theorem dX6_truly_98 : decode cX6_truly 98 = .ok (.istore_n 2, 1) := by decide +kernel
theorem dX6_truly_99 : decode cX6_truly 99 = .ok (.iinc 3 1, 3) := by decide +kernel
theorem dX6_truly_102 : decode cX6_truly 102 = .ok (.goto (-88), 3) := by decide +kernel
theorem dX6_truly_105 : decode cX6_truly 105 = .ok (.iload_n 2, 1) := by decide +kernel
theorem dX6_truly_106 : decode cX6_truly 106 = .ok (.ireturn, 1) := by decide +kernel
theorem dX6_covers_0 : decode cX6_covers 0 = .ok (.iconst 1, 1) := by decide +kernel
theorem dX6_covers_1 : decode cX6_covers 1 = .ok (.istore_n 2, 1) := by decide +kernel
theorem dX6_covers_2 : decode cX6_covers 2 = .ok (.iconst 0, 1) := by decide +kernel
theorem dX6_covers_3 : decode cX6_covers 3 = .ok (.istore_n 3, 1) := by decide +kernel
theorem dX6_covers_4 : decode cX6_covers 4 = .ok (.iload_n 3, 1) := by decide +kernel
theorem dX6_covers_5 : decode cX6_covers 5 = .ok (.aload_n 0, 1) := by decide +kernel
theorem dX6_covers_6 : decode cX6_covers 6 = .ok (.getfield 89, 3) := by decide +kernel
theorem dX6_covers_9 : decode cX6_covers 9 = .ok (.if_icmp .ge 55, 3) := by decide +kernel
theorem dX6_covers_12 : decode cX6_covers 12 = .ok (.aload_n 0, 1) := by decide +kernel
theorem dX6_covers_13 : decode cX6_covers 13 = .ok (.iload_n 3, 1) := by decide +kernel
theorem dX6_covers_14 : decode cX6_covers 14 = .ok (.invokevirtual 121, 3) := by decide +kernel
theorem dX6_covers_17 : decode cX6_covers 17 = .ok (.iload_n 1, 1) := by decide +kernel
theorem dX6_covers_18 : decode cX6_covers 18 = .ok (.iand, 1) := by decide +kernel
theorem dX6_covers_19 : decode cX6_covers 19 = .ok (.istore 4, 2) := by decide +kernel
theorem dX6_covers_21 : decode cX6_covers 21 = .ok (.iload_n 2, 1) := by decide +kernel
theorem dX6_covers_22 : decode cX6_covers 22 = .ok (.ifCond .eq 34, 3) := by decide +kernel
theorem dX6_covers_25 : decode cX6_covers 25 = .ok (.iload 4, 2) := by decide +kernel
theorem dX6_covers_27 : decode cX6_covers 27 = .ok (.ifCond .eq 7, 3) := by decide +kernel
theorem dX6_covers_30 : decode cX6_covers 30 = .ok (.iconst 1, 1) := by decide +kernel
theorem dX6_covers_31 : decode cX6_covers 31 = .ok (.goto 4, 3) := by decide +kernel
theorem dX6_covers_34 : decode cX6_covers 34 = .ok (.iconst 0, 1) := by decide +kernel
theorem dX6_covers_35 : decode cX6_covers 35 = .ok (.aload_n 0, 1) := by decide +kernel
theorem dX6_covers_36 : decode cX6_covers 36 = .ok (.getfield 19, 3) := by decide +kernel
theorem dX6_covers_39 : decode cX6_covers 39 = .ok (.iload_n 3, 1) := by decide +kernel
theorem dX6_covers_40 : decode cX6_covers 40 = .ok (.iaload, 1) := by decide +kernel
theorem dX6_covers_41 : decode cX6_covers 41 = .ok (.ifCond .le 7, 3) := by decide +kernel
theorem dX6_covers_44 : decode cX6_covers 44 = .ok (.iconst 1, 1) := by decide +kernel
theorem dX6_covers_45 : decode cX6_covers 45 = .ok (.goto 4, 3) := by decide +kernel
theorem dX6_covers_48 : decode cX6_covers 48 = .ok (.iconst 0, 1) := by decide +kernel
theorem dX6_covers_49 : decode cX6_covers 49 = .ok (.if_icmp .ne 7, 3) := by decide +kernel
theorem dX6_covers_52 : decode cX6_covers 52 = .ok (.iconst 1, 1) := by decide +kernel
theorem dX6_covers_53 : decode cX6_covers 53 = .ok (.goto 4, 3) := by decide +kernel
theorem dX6_covers_56 : decode cX6_covers 56 = .ok (.iconst 0, 1) := by decide +kernel
theorem dX6_covers_57 : decode cX6_covers 57 = .ok (.istore_n 2, 1) := by decide +kernel
theorem dX6_covers_58 : decode cX6_covers 58 = .ok (.iinc 3 1, 3) := by decide +kernel
theorem dX6_covers_61 : decode cX6_covers 61 = .ok (.goto (-57), 3) := by decide +kernel
theorem dX6_covers_64 : decode cX6_covers 64 = .ok (.iload_n 2, 1) := by decide +kernel
theorem dX6_covers_65 : decode cX6_covers 65 = .ok (.ireturn, 1) := by decide +kernel
theorem dX6_cover_0 : decode cX6_cover 0 = .ok (.bipush (-9), 2) := by decide +kernel
theorem dX6_cover_2 : decode cX6_cover 2 = .ok (.istore_n 1, 1) := by decide +kernel
theorem dX6_cover_3 : decode cX6_cover 3 = .ok (.iconst 0, 1) := by decide +kernel
theorem dX6_cover_4 : decode cX6_cover 4 = .ok (.istore_n 2, 1) := by decide +kernel
theorem dX6_cover_5 : decode cX6_cover 5 = .ok (.iload_n 2, 1) := by decide +kernel
theorem dX6_cover_6 : decode cX6_cover 6 = .ok (.iconst 1, 1) := by decide +kernel
theorem dX6_cover_7 : decode cX6_cover 7 = .ok (.aload_n 0, 1) := by decide +kernel
theorem dX6_cover_8 : decode cX6_cover 8 = .ok (.getfield 86, 3) := by decide +kernel
theorem dX6_cover_11 : decode cX6_cover 11 = .ok (.ishl, 1) := by decide +kernel
theorem dX6_cover_12 : decode cX6_cover 12 = .ok (.if_icmp .ge 50, 3) := by decide +kernel
theorem dX6_cover_15 : decode cX6_cover 15 = .ok (.iload_n 1, 1) := by decide +kernel
theorem dX6_cover_16 : decode cX6_cover 16 = .ok (.bipush (-9), 2) := by decide +kernel
theorem dX6_cover_18 : decode cX6_cover 18 = .ok (.if_icmp .eq 14, 3) := by decide +kernel
theorem dX6_cover_21 : decode cX6_cover 21 = .ok (.iload_n 2, 1) := by decide +kernel
theorem dX6_cover_22 : decode cX6_cover 22 = .ok (.invokestatic 137, 3) := by decide +kernel
theorem dX6_cover_25 : decode cX6_cover 25 = .ok (.iload_n 1, 1) := by decide +kernel
theorem dX6_cover_26 : decode cX6_cover 26 = .ok (.invokestatic 137, 3) := by decide +kernel
theorem dX6_cover_29 : decode cX6_cover 29 = .ok (.if_icmp .ge 7, 3) := by decide +kernel
theorem dX6_cover_32 : decode cX6_cover 32 = .ok (.iconst 1, 1) := by decide +kernel
theorem dX6_cover_33 : decode cX6_cover 33 = .ok (.goto 4, 3) := by decide +kernel
theorem dX6_cover_36 : decode cX6_cover 36 = .ok (.iconst 0, 1) := by decide +kernel
theorem dX6_cover_37 : decode cX6_cover 37 = .ok (.istore_n 3, 1) := by decide +kernel
theorem dX6_cover_38 : decode cX6_cover 38 = .ok (.iload_n 3, 1) := by decide +kernel
theorem dX6_cover_39 : decode cX6_cover 39 = .ok (.ifCond .eq 15, 3) := by decide +kernel
theorem dX6_cover_42 : decode cX6_cover 42 = .ok (.aload_n 0, 1) := by decide +kernel
theorem dX6_cover_43 : decode cX6_cover 43 = .ok (.iload_n 2, 1) := by decide +kernel
theorem dX6_cover_44 : decode cX6_cover 44 = .ok (.invokevirtual 140, 3) := by decide +kernel
theorem dX6_cover_47 : decode cX6_cover 47 = .ok (.ifCond .eq 7, 3) := by decide +kernel
theorem dX6_cover_50 : decode cX6_cover 50 = .ok (.iload_n 2, 1) := by decide +kernel
theorem dX6_cover_51 : decode cX6_cover 51 = .ok (.goto 4, 3) := by decide +kernel
theorem dX6_cover_54 : decode cX6_cover 54 = .ok (.iload_n 1, 1) := by decide +kernel
theorem dX6_cover_55 : decode cX6_cover 55 = .ok (.istore_n 1, 1) := by decide +kernel
theorem dX6_cover_56 : decode cX6_cover 56 = .ok (.iinc 2 1, 3) := by decide +kernel
theorem dX6_cover_59 : decode cX6_cover 59 = .ok (.goto (-54), 3) := by decide +kernel
theorem dX6_cover_62 : decode cX6_cover 62 = .ok (.iload_n 1, 1) := by decide +kernel
theorem dX6_cover_63 : decode cX6_cover 63 = .ok (.ireturn, 1) := by decide +kernel
theorem dX6_wrong_0 : decode cX6_wrong 0 = .ok (.iconst 0, 1) := by decide +kernel
theorem dX6_wrong_1 : decode cX6_wrong 1 = .ok (.istore_n 2, 1) := by decide +kernel
theorem dX6_wrong_2 : decode cX6_wrong 2 = .ok (.iconst 0, 1) := by decide +kernel
theorem dX6_wrong_3 : decode cX6_wrong 3 = .ok (.istore_n 3, 1) := by decide +kernel
theorem dX6_wrong_4 : decode cX6_wrong 4 = .ok (.iload_n 3, 1) := by decide +kernel
theorem dX6_wrong_5 : decode cX6_wrong 5 = .ok (.aload_n 0, 1) := by decide +kernel
theorem dX6_wrong_6 : decode cX6_wrong 6 = .ok (.getfield 89, 3) := by decide +kernel
theorem dX6_wrong_9 : decode cX6_wrong 9 = .ok (.if_icmp .ge 101, 3) := by decide +kernel
theorem dX6_wrong_12 : decode cX6_wrong 12 = .ok (.aload_n 0, 1) := by decide +kernel
theorem dX6_wrong_13 : decode cX6_wrong 13 = .ok (.aload_n 0, 1) := by decide +kernel
theorem dX6_wrong_14 : decode cX6_wrong 14 = .ok (.getfield 22, 3) := by decide +kernel
theorem dX6_wrong_17 : decode cX6_wrong 17 = .ok (.iconst 5, 1) := by decide +kernel
theorem dX6_wrong_18 : decode cX6_wrong 18 = .ok (.iaload, 1) := by decide +kernel
theorem dX6_wrong_19 : decode cX6_wrong 19 = .ok (.iload_n 3, 1) := by decide +kernel
theorem dX6_wrong_20 : decode cX6_wrong 20 = .ok (.invokevirtual 125, 3) := by decide +kernel
theorem dX6_wrong_23 : decode cX6_wrong 23 = .ok (.istore 4, 2) := by decide +kernel
theorem dX6_wrong_25 : decode cX6_wrong 25 = .ok (.aload_n 0, 1) := by decide +kernel
theorem dX6_wrong_26 : decode cX6_wrong 26 = .ok (.aload_n 0, 1) := by decide +kernel
theorem dX6_wrong_27 : decode cX6_wrong 27 = .ok (.getfield 22, 3) := by decide +kernel
theorem dX6_wrong_30 : decode cX6_wrong 30 = .ok (.bipush 6, 2) := by decide +kernel
theorem dX6_wrong_32 : decode cX6_wrong 32 = .ok (.iaload, 1) := by decide +kernel
theorem dX6_wrong_33 : decode cX6_wrong 33 = .ok (.iload_n 3, 1) := by decide +kernel
theorem dX6_wrong_34 : decode cX6_wrong 34 = .ok (.invokevirtual 125, 3) := by decide +kernel
theorem dX6_wrong_37 : decode cX6_wrong 37 = .ok (.istore 5, 2) := by decide +kernel
theorem dX6_wrong_39 : decode cX6_wrong 39 = .ok (.iload 4, 2) := by decide +kernel
theorem dX6_wrong_41 : decode cX6_wrong 41 = .ok (.invokestatic 137, 3) := by decide +kernel
theorem dX6_wrong_44 : decode cX6_wrong 44 = .ok (.iload 5, 2) := by decide +kernel
theorem dX6_wrong_46 : decode cX6_wrong 46 = .ok (.invokestatic 137, 3) := by decide +kernel
theorem dX6_wrong_49 : decode cX6_wrong 49 = .ok (.if_icmp .gt 8, 3) := by decide +kernel
theorem dX6_wrong_52 : decode cX6_wrong 52 = .ok (.iload 4, 2) := by decide +kernel
theorem dX6_wrong_54 : decode cX6_wrong 54 = .ok (.goto 5, 3) := by decide +kernel
theorem dX6_wrong_57 : decode cX6_wrong 57 = .ok (.iload 5, 2) := by decide +kernel
theorem dX6_wrong_59 : decode cX6_wrong 59 = .ok (.istore 6, 2) := by decide +kernel
theorem dX6_wrong_61 : decode cX6_wrong 61 = .ok (.iconst 0, 1) := by decide +kernel
theorem dX6_wrong_62 : decode cX6_wrong 62 = .ok (.istore 7, 2) := by decide +kernel
theorem dX6_wrong_64 : decode cX6_wrong 64 = .ok (.iload 7, 2) := by decide +kernel
theorem dX6_wrong_66 : decode cX6_wrong 66 = .ok (.aload_n 0, 1) := by decide +kernel
theorem dX6_wrong_67 : decode cX6_wrong 67 = .ok (.getfield 86, 3) := by decide +kernel
theorem dX6_wrong_70 : decode cX6_wrong 70 = .ok (.if_icmp .ge 34, 3) := by decide +kernel
theorem dX6_wrong_73 : decode cX6_wrong 73 = .ok (.iload_n 2, 1) := by decide +kernel
theorem dX6_wrong_74 : decode cX6_wrong 74 = .ok (.iload 6, 2) := by decide +kernel
theorem dX6_wrong_76 : decode cX6_wrong 76 = .ok (.iload 7, 2) := by decide +kernel
theorem dX6_wrong_78 : decode cX6_wrong 78 = .ok (.invokestatic 115, 3) := by decide +kernel
theorem dX6_wrong_81 : decode cX6_wrong 81 = .ok (.ifCond .eq 14, 3) := by decide +kernel
theorem dX6_wrong_84 : decode cX6_wrong 84 = .ok (.iconst 1, 1) := by decide +kernel
theorem dX6_wrong_85 : decode cX6_wrong 85 = .ok (.iconst 4, 1) := by decide +kernel
theorem dX6_wrong_86 : decode cX6_wrong 86 = .ok (.iload 7, 2) := by decide +kernel
theorem dX6_wrong_88 : decode cX6_wrong 88 = .ok (.imul, 1) := by decide +kernel
theorem dX6_wrong_89 : decode cX6_wrong 89 = .ok (.iload_n 3, 1) := by decide +kernel
theorem dX6_wrong_90 : decode cX6_wrong 90 = .ok (.iadd, 1) := by decide +kernel
theorem dX6_wrong_91 : decode cX6_wrong 91 = .ok (.ishl, 1) := by decide +kernel
theorem dX6_wrong_92 : decode cX6_wrong 92 = .ok (.goto 4, 3) := by decide +kernel
theorem dX6_wrong_95 : decode cX6_wrong 95 = .ok (.iconst 0, 1) := by decide +kernel
theorem dX6_wrong_96 : decode cX6_wrong 96 = .ok (.ior, 1) := by decide +kernel
theorem dX6_wrong_97 : decode cX6_wrong 97 = .ok (.istore_n 2, 1) := by decide +kernel
theorem dX6_wrong_98 : decode cX6_wrong 98 = .ok (.iinc 7 1, 3) := by decide +kernel
theorem dX6_wrong_101 : decode cX6_wrong 101 = .ok (.goto (-37), 3) := by decide +kernel
theorem dX6_wrong_104 : decode cX6_wrong 104 = .ok (.iinc 3 1, 3) := by decide +kernel
theorem dX6_wrong_107 : decode cX6_wrong 107 = .ok (.goto (-103), 3) := by decide +kernel
theorem dX6_wrong_110 : decode cX6_wrong 110 = .ok (.iload_n 1, 1) := by decide +kernel
theorem dX6_wrong_111 : decode cX6_wrong 111 = .ok (.ifCond .eq 7, 3) := by decide +kernel
theorem dX6_wrong_114 : decode cX6_wrong 114 = .ok (.iload_n 2, 1) := by decide +kernel
theorem dX6_wrong_115 : decode cX6_wrong 115 = .ok (.goto 7, 3) := by decide +kernel
theorem dX6_wrong_118 : decode cX6_wrong 118 = .ok (.iload_n 2, 1) := by decide +kernel
theorem dX6_wrong_119 : decode cX6_wrong 119 = .ok (.invokestatic 137, 3) := by decide +kernel
theorem dX6_wrong_122 : decode cX6_wrong 122 = .ok (.ireturn, 1) := by decide +kernel
theorem dX6_layTrial_0 : decode cX6_layTrial 0 = .ok (.iconst 0, 1) := by decide +kernel
theorem dX6_layTrial_1 : decode cX6_layTrial 1 = .ok (.istore_n 1, 1) := by decide +kernel
theorem dX6_layTrial_2 : decode cX6_layTrial 2 = .ok (.iload_n 1, 1) := by decide +kernel
theorem dX6_layTrial_3 : decode cX6_layTrial 3 = .ok (.bipush 9, 2) := by decide +kernel
theorem dX6_layTrial_5 : decode cX6_layTrial 5 = .ok (.if_icmp .ge 24, 3) := by decide +kernel
theorem dX6_layTrial_8 : decode cX6_layTrial 8 = .ok (.aload_n 0, 1) := by decide +kernel
theorem dX6_layTrial_9 : decode cX6_layTrial 9 = .ok (.getfield 22, 3) := by decide +kernel
theorem dX6_layTrial_12 : decode cX6_layTrial 12 = .ok (.bipush 9, 2) := by decide +kernel
theorem dX6_layTrial_14 : decode cX6_layTrial 14 = .ok (.iload_n 1, 1) := by decide +kernel
theorem dX6_layTrial_15 : decode cX6_layTrial 15 = .ok (.iadd, 1) := by decide +kernel
theorem dX6_layTrial_16 : decode cX6_layTrial 16 = .ok (.aload_n 0, 1) := by decide +kernel
theorem dX6_layTrial_17 : decode cX6_layTrial 17 = .ok (.getfield 22, 3) := by decide +kernel
theorem dX6_layTrial_20 : decode cX6_layTrial 20 = .ok (.iload_n 1, 1) := by decide +kernel
theorem dX6_layTrial_21 : decode cX6_layTrial 21 = .ok (.iaload, 1) := by decide +kernel
theorem dX6_layTrial_22 : decode cX6_layTrial 22 = .ok (.iastore, 1) := by decide +kernel
theorem dX6_layTrial_23 : decode cX6_layTrial 23 = .ok (.iinc 1 1, 3) := by decide +kernel
theorem dX6_layTrial_26 : decode cX6_layTrial 26 = .ok (.goto (-24), 3) := by decide +kernel
theorem dX6_layTrial_29 : decode cX6_layTrial 29 = .ok (.return_, 1) := by decide +kernel
theorem dX6_power_0 : decode cX6_power 0 = .ok (.iconst 1, 1) := by decide +kernel
theorem dX6_power_1 : decode cX6_power 1 = .ok (.istore_n 2, 1) := by decide +kernel
theorem dX6_power_2 : decode cX6_power 2 = .ok (.iconst 0, 1) := by decide +kernel
theorem dX6_power_3 : decode cX6_power 3 = .ok (.istore_n 3, 1) := by decide +kernel
theorem dX6_power_4 : decode cX6_power 4 = .ok (.iload_n 3, 1) := by decide +kernel
theorem dX6_power_5 : decode cX6_power 5 = .ok (.iload_n 1, 1) := by decide +kernel
theorem dX6_power_6 : decode cX6_power 6 = .ok (.if_icmp .ge 13, 3) := by decide +kernel
theorem dX6_power_9 : decode cX6_power 9 = .ok (.iload_n 2, 1) := by decide +kernel
theorem dX6_power_10 : decode cX6_power 10 = .ok (.iload_n 0, 1) := by decide +kernel
theorem dX6_power_11 : decode cX6_power 11 = .ok (.imul, 1) := by decide +kernel
theorem dX6_power_12 : decode cX6_power 12 = .ok (.istore_n 2, 1) := by decide +kernel
theorem dX6_power_13 : decode cX6_power 13 = .ok (.iinc 3 1, 3) := by decide +kernel
theorem dX6_power_16 : decode cX6_power 16 = .ok (.goto (-12), 3) := by decide +kernel
theorem dX6_power_19 : decode cX6_power 19 = .ok (.iload_n 2, 1) := by decide +kernel
theorem dX6_power_20 : decode cX6_power 20 = .ok (.ireturn, 1) := by decide +kernel
theorem dX6_tryThing_0 : decode cX6_tryThing 0 = .ok (.iload_n 1, 1) := by decide +kernel
theorem dX6_tryThing_1 : decode cX6_tryThing 1 = .ok (.ifCond .ne 43, 3) := by decide +kernel
theorem dX6_tryThing_4 : decode cX6_tryThing 4 = .ok (.bipush 9, 2) := by decide +kernel
theorem dX6_tryThing_6 : decode cX6_tryThing 6 = .ok (.iload_n 2, 1) := by decide +kernel
theorem dX6_tryThing_7 : decode cX6_tryThing 7 = .ok (.ifCond .ne 8, 3) := by decide +kernel
theorem dX6_tryThing_10 : decode cX6_tryThing 10 = .ok (.bipush 7, 2) := by decide +kernel
theorem dX6_tryThing_12 : decode cX6_tryThing 12 = .ok (.goto 5, 3) := by decide +kernel
theorem dX6_tryThing_15 : decode cX6_tryThing 15 = .ok (.bipush 8, 2) := by decide +kernel
theorem dX6_tryThing_17 : decode cX6_tryThing 17 = .ok (.iadd, 1) := by decide +kernel
theorem dX6_tryThing_18 : decode cX6_tryThing 18 = .ok (.istore_n 3, 1) := by decide +kernel
theorem dX6_tryThing_19 : decode cX6_tryThing 19 = .ok (.aload_n 0, 1) := by decide +kernel
theorem dX6_tryThing_20 : decode cX6_tryThing 20 = .ok (.getfield 22, 3) := by decide +kernel
theorem dX6_tryThing_23 : decode cX6_tryThing 23 = .ok (.iload_n 3, 1) := by decide +kernel
theorem dX6_tryThing_24 : decode cX6_tryThing 24 = .ok (.iconst 1, 1) := by decide +kernel
theorem dX6_tryThing_25 : decode cX6_tryThing 25 = .ok (.aload_n 0, 1) := by decide +kernel
theorem dX6_tryThing_26 : decode cX6_tryThing 26 = .ok (.getfield 22, 3) := by decide +kernel
theorem dX6_tryThing_29 : decode cX6_tryThing 29 = .ok (.iload_n 3, 1) := by decide +kernel
theorem dX6_tryThing_30 : decode cX6_tryThing 30 = .ok (.iaload, 1) := by decide +kernel
theorem dX6_tryThing_31 : decode cX6_tryThing 31 = .ok (.isub, 1) := by decide +kernel
theorem dX6_tryThing_32 : decode cX6_tryThing 32 = .ok (.iastore, 1) := by decide +kernel
theorem dX6_tryThing_33 : decode cX6_tryThing 33 = .ok (.iload_n 2, 1) := by decide +kernel
theorem dX6_tryThing_34 : decode cX6_tryThing 34 = .ok (.iconst 2, 1) := by decide +kernel
theorem dX6_tryThing_35 : decode cX6_tryThing 35 = .ok (.if_icmp .ge 7, 3) := by decide +kernel
theorem dX6_tryThing_38 : decode cX6_tryThing 38 = .ok (.iconst 1, 1) := by decide +kernel
theorem dX6_tryThing_39 : decode cX6_tryThing 39 = .ok (.goto 4, 3) := by decide +kernel
theorem dX6_tryThing_42 : decode cX6_tryThing 42 = .ok (.iconst 0, 1) := by decide +kernel
theorem dX6_tryThing_43 : decode cX6_tryThing 43 = .ok (.ireturn, 1) := by decide +kernel
theorem dX6_tryThing_44 : decode cX6_tryThing 44 = .ok (.iload_n 1, 1) := by decide +kernel
theorem dX6_tryThing_45 : decode cX6_tryThing 45 = .ok (.bipush 6, 2) := by decide +kernel
theorem dX6_tryThing_47 : decode cX6_tryThing 47 = .ok (.if_icmp .ne 45, 3) := by decide +kernel
theorem dX6_tryThing_50 : decode cX6_tryThing 50 = .ok (.aload_n 0, 1) := by decide +kernel
theorem dX6_tryThing_51 : decode cX6_tryThing 51 = .ok (.iload_n 2, 1) := by decide +kernel
theorem dX6_tryThing_52 : decode cX6_tryThing 52 = .ok (.invokevirtual 111, 3) := by decide +kernel
theorem dX6_tryThing_55 : decode cX6_tryThing 55 = .ok (.ifCond .eq 19, 3) := by decide +kernel
theorem dX6_tryThing_58 : decode cX6_tryThing 58 = .ok (.aload_n 0, 1) := by decide +kernel
theorem dX6_tryThing_59 : decode cX6_tryThing 59 = .ok (.getfield 22, 3) := by decide +kernel
theorem dX6_tryThing_62 : decode cX6_tryThing 62 = .ok (.bipush 9, 2) := by decide +kernel
theorem dX6_tryThing_64 : decode cX6_tryThing 64 = .ok (.iload_n 2, 1) := by decide +kernel
theorem dX6_tryThing_65 : decode cX6_tryThing 65 = .ok (.iadd, 1) := by decide +kernel
theorem dX6_tryThing_66 : decode cX6_tryThing 66 = .ok (.iaload, 1) := by decide +kernel
theorem dX6_tryThing_67 : decode cX6_tryThing 67 = .ok (.ifCond .le 7, 3) := by decide +kernel
theorem dX6_tryThing_70 : decode cX6_tryThing 70 = .ok (.iconst 1, 1) := by decide +kernel
theorem dX6_tryThing_71 : decode cX6_tryThing 71 = .ok (.goto 4, 3) := by decide +kernel
theorem dX6_tryThing_74 : decode cX6_tryThing 74 = .ok (.iconst 0, 1) := by decide +kernel
theorem dX6_tryThing_75 : decode cX6_tryThing 75 = .ok (.istore_n 3, 1) := by decide +kernel
theorem dX6_tryThing_76 : decode cX6_tryThing 76 = .ok (.iload_n 3, 1) := by decide +kernel
theorem dX6_tryThing_77 : decode cX6_tryThing 77 = .ok (.ifCond .eq 13, 3) := by decide +kernel
theorem dX6_tryThing_80 : decode cX6_tryThing 80 = .ok (.aload_n 0, 1) := by decide +kernel
theorem dX6_tryThing_81 : decode cX6_tryThing 81 = .ok (.getfield 22, 3) := by decide +kernel
theorem dX6_tryThing_84 : decode cX6_tryThing 84 = .ok (.bipush 9, 2) := by decide +kernel
theorem dX6_tryThing_86 : decode cX6_tryThing 86 = .ok (.iload_n 2, 1) := by decide +kernel
theorem dX6_tryThing_87 : decode cX6_tryThing 87 = .ok (.iadd, 1) := by decide +kernel
theorem dX6_tryThing_88 : decode cX6_tryThing 88 = .ok (.iconst 0, 1) := by decide +kernel
theorem dX6_tryThing_89 : decode cX6_tryThing 89 = .ok (.iastore, 1) := by decide +kernel
theorem dX6_tryThing_90 : decode cX6_tryThing 90 = .ok (.iload_n 3, 1) := by decide +kernel
theorem dX6_tryThing_91 : decode cX6_tryThing 91 = .ok (.ireturn, 1) := by decide +kernel
theorem dX6_tryThing_92 : decode cX6_tryThing 92 = .ok (.iload_n 1, 1) := by decide +kernel
theorem dX6_tryThing_93 : decode cX6_tryThing 93 = .ok (.bipush 6, 2) := by decide +kernel
theorem dX6_tryThing_95 : decode cX6_tryThing 95 = .ok (.if_icmp .ge 46, 3) := by decide +kernel
theorem dX6_tryThing_98 : decode cX6_tryThing 98 = .ok (.aload_n 0, 1) := by decide +kernel
theorem dX6_tryThing_99 : decode cX6_tryThing 99 = .ok (.iload_n 1, 1) := by decide +kernel
theorem dX6_tryThing_100 : decode cX6_tryThing 100 = .ok (.iconst 1, 1) := by decide +kernel
theorem dX6_tryThing_101 : decode cX6_tryThing 101 = .ok (.isub, 1) := by decide +kernel
theorem dX6_tryThing_102 : decode cX6_tryThing 102 = .ok (.invokevirtual 111, 3) := by decide +kernel
theorem dX6_tryThing_105 : decode cX6_tryThing 105 = .ok (.ifCond .eq 36, 3) := by decide +kernel
theorem dX6_tryThing_108 : decode cX6_tryThing 108 = .ok (.aload_n 0, 1) := by decide +kernel
theorem dX6_tryThing_109 : decode cX6_tryThing 109 = .ok (.iload_n 2, 1) := by decide +kernel
theorem dX6_tryThing_110 : decode cX6_tryThing 110 = .ok (.invokevirtual 118, 3) := by decide +kernel
theorem dX6_tryThing_113 : decode cX6_tryThing 113 = .ok (.ifCond .eq 28, 3) := by decide +kernel
theorem dX6_tryThing_116 : decode cX6_tryThing 116 = .ok (.aload_n 0, 1) := by decide +kernel
theorem dX6_tryThing_117 : decode cX6_tryThing 117 = .ok (.iconst 1, 1) := by decide +kernel
theorem dX6_tryThing_118 : decode cX6_tryThing 118 = .ok (.iload_n 1, 1) := by decide +kernel
theorem dX6_tryThing_119 : decode cX6_tryThing 119 = .ok (.iconst 1, 1) := by decide +kernel
theorem dX6_tryThing_120 : decode cX6_tryThing 120 = .ok (.isub, 1) := by decide +kernel
theorem dX6_tryThing_121 : decode cX6_tryThing 121 = .ok (.iload_n 2, 1) := by decide +kernel
theorem dX6_tryThing_122 : decode cX6_tryThing 122 = .ok (.invokevirtual 134, 3) := by decide +kernel
theorem dX6_tryThing_125 : decode cX6_tryThing 125 = .ok (.ifCond .eq 12, 3) := by decide +kernel
theorem dX6_tryThing_128 : decode cX6_tryThing 128 = .ok (.aload_n 0, 1) := by decide +kernel
theorem dX6_tryThing_129 : decode cX6_tryThing 129 = .ok (.getfield 19, 3) := by decide +kernel
theorem dX6_tryThing_132 : decode cX6_tryThing 132 = .ok (.iload_n 2, 1) := by decide +kernel
theorem dX6_tryThing_133 : decode cX6_tryThing 133 = .ok (.iaload, 1) := by decide +kernel
theorem dX6_tryThing_134 : decode cX6_tryThing 134 = .ok (.ifCond .le 7, 3) := by decide +kernel
theorem dX6_tryThing_137 : decode cX6_tryThing 137 = .ok (.iconst 1, 1) := by decide +kernel
theorem dX6_tryThing_138 : decode cX6_tryThing 138 = .ok (.goto 4, 3) := by decide +kernel
theorem dX6_tryThing_141 : decode cX6_tryThing 141 = .ok (.iconst 0, 1) := by decide +kernel
theorem dX6_tryThing_142 : decode cX6_tryThing 142 = .ok (.ireturn, 1) := by decide +kernel
theorem dX6_judge_0 : decode cX6_judge 0 = .ok (.iload_n 1, 1) := by decide +kernel
theorem dX6_judge_1 : decode cX6_judge 1 = .ok (.i2l, 1) := by decide +kernel
theorem dX6_judge_2 : decode cX6_judge 2 = .ok (.lconst 1, 1) := by decide +kernel
theorem dX6_judge_3 : decode cX6_judge 3 = .ok (.ldc2_w 143, 3) := by decide +kernel
theorem dX6_judge_6 : decode cX6_judge 6 = .ok (.invokestatic 58, 3) := by decide +kernel
theorem dX6_judge_9 : decode cX6_judge 9 = .ok (.ifCond .eq 21, 3) := by decide +kernel
theorem dX6_judge_12 : decode cX6_judge 12 = .ok (.iload_n 2, 1) := by decide +kernel
theorem dX6_judge_13 : decode cX6_judge 13 = .ok (.i2l, 1) := by decide +kernel
theorem dX6_judge_14 : decode cX6_judge 14 = .ok (.lconst 0, 1) := by decide +kernel
theorem dX6_judge_15 : decode cX6_judge 15 = .ok (.bipush 100, 2) := by decide +kernel
theorem dX6_judge_17 : decode cX6_judge 17 = .ok (.iload_n 1, 1) := by decide +kernel
theorem dX6_judge_18 : decode cX6_judge 18 = .ok (.invokestatic 145, 3) := by decide +kernel
theorem dX6_judge_21 : decode cX6_judge 21 = .ok (.iconst 1, 1) := by decide +kernel
theorem dX6_judge_22 : decode cX6_judge 22 = .ok (.isub, 1) := by decide +kernel
theorem dX6_judge_23 : decode cX6_judge 23 = .ok (.i2l, 1) := by decide +kernel
theorem dX6_judge_24 : decode cX6_judge 24 = .ok (.invokestatic 58, 3) := by decide +kernel
theorem dX6_judge_27 : decode cX6_judge 27 = .ok (.ifCond .ne 6, 3) := by decide +kernel
theorem dX6_judge_30 : decode cX6_judge 30 = .ok (.bipush (-2), 2) := by decide +kernel
theorem dX6_judge_32 : decode cX6_judge 32 = .ok (.ireturn, 1) := by decide +kernel
theorem dX6_judge_33 : decode cX6_judge 33 = .ok (.aload_n 0, 1) := by decide +kernel
theorem dX6_judge_34 : decode cX6_judge 34 = .ok (.invokevirtual 148, 3) := by decide +kernel
theorem dX6_judge_37 : decode cX6_judge 37 = .ok (.iconst 0, 1) := by decide +kernel
theorem dX6_judge_38 : decode cX6_judge 38 = .ok (.istore_n 3, 1) := by decide +kernel
theorem dX6_judge_39 : decode cX6_judge 39 = .ok (.iload_n 3, 1) := by decide +kernel
theorem dX6_judge_40 : decode cX6_judge 40 = .ok (.iload_n 1, 1) := by decide +kernel
theorem dX6_judge_41 : decode cX6_judge 41 = .ok (.if_icmp .ge 45, 3) := by decide +kernel
theorem dX6_judge_44 : decode cX6_judge 44 = .ok (.iload_n 2, 1) := by decide +kernel
theorem dX6_judge_45 : decode cX6_judge 45 = .ok (.bipush 100, 2) := by decide +kernel
theorem dX6_judge_47 : decode cX6_judge 47 = .ok (.iload_n 1, 1) := by decide +kernel
theorem dX6_judge_48 : decode cX6_judge 48 = .ok (.iconst 1, 1) := by decide +kernel
theorem dX6_judge_49 : decode cX6_judge 49 = .ok (.isub, 1) := by decide +kernel
theorem dX6_judge_50 : decode cX6_judge 50 = .ok (.iload_n 3, 1) := by decide +kernel
theorem dX6_judge_51 : decode cX6_judge 51 = .ok (.isub, 1) := by decide +kernel
theorem dX6_judge_52 : decode cX6_judge 52 = .ok (.invokestatic 145, 3) := by decide +kernel
theorem dX6_judge_55 : decode cX6_judge 55 = .ok (.idiv, 1) := by decide +kernel
theorem dX6_judge_56 : decode cX6_judge 56 = .ok (.bipush 100, 2) := by decide +kernel
theorem dX6_judge_58 : decode cX6_judge 58 = .ok (.irem, 1) := by decide +kernel
theorem dX6_judge_59 : decode cX6_judge 59 = .ok (.istore 4, 2) := by decide +kernel
theorem dX6_judge_61 : decode cX6_judge 61 = .ok (.aload_n 0, 1) := by decide +kernel
theorem dX6_judge_62 : decode cX6_judge 62 = .ok (.iload 4, 2) := by decide +kernel
theorem dX6_judge_64 : decode cX6_judge 64 = .ok (.bipush 10, 2) := by decide +kernel
theorem dX6_judge_66 : decode cX6_judge 66 = .ok (.idiv, 1) := by decide +kernel
theorem dX6_judge_67 : decode cX6_judge 67 = .ok (.iload 4, 2) := by decide +kernel
theorem dX6_judge_69 : decode cX6_judge 69 = .ok (.bipush 10, 2) := by decide +kernel
theorem dX6_judge_71 : decode cX6_judge 71 = .ok (.irem, 1) := by decide +kernel
theorem dX6_judge_72 : decode cX6_judge 72 = .ok (.invokevirtual 151, 3) := by decide +kernel
theorem dX6_judge_75 : decode cX6_judge 75 = .ok (.ifCond .ne 5, 3) := by decide +kernel
theorem dX6_judge_78 : decode cX6_judge 78 = .ok (.iload_n 3, 1) := by decide +kernel
theorem dX6_judge_79 : decode cX6_judge 79 = .ok (.ireturn, 1) := by decide +kernel
theorem dX6_judge_80 : decode cX6_judge 80 = .ok (.iinc 3 1, 3) := by decide +kernel
theorem dX6_judge_83 : decode cX6_judge 83 = .ok (.goto (-44), 3) := by decide +kernel
theorem dX6_judge_86 : decode cX6_judge 86 = .ok (.bipush (-9), 2) := by decide +kernel
theorem dX6_judge_88 : decode cX6_judge 88 = .ok (.ireturn, 1) := by decide +kernel
theorem dX6_hear_0 : decode cX6_hear 0 = .ok (.aload_n 0, 1) := by decide +kernel
theorem dX6_hear_1 : decode cX6_hear 1 = .ok (.iload_n 1, 1) := by decide +kernel
theorem dX6_hear_2 : decode cX6_hear 2 = .ok (.invokevirtual 111, 3) := by decide +kernel
theorem dX6_hear_5 : decode cX6_hear 5 = .ok (.ifCond .eq 11, 3) := by decide +kernel
theorem dX6_hear_8 : decode cX6_hear 8 = .ok (.aload_n 0, 1) := by decide +kernel
theorem dX6_hear_9 : decode cX6_hear 9 = .ok (.iload_n 2, 1) := by decide +kernel
theorem dX6_hear_10 : decode cX6_hear 10 = .ok (.invokevirtual 118, 3) := by decide +kernel
theorem dX6_hear_13 : decode cX6_hear 13 = .ok (.ifCond .ne 5, 3) := by decide +kernel
theorem dX6_hear_16 : decode cX6_hear 16 = .ok (.iconst (-1), 1) := by decide +kernel
theorem dX6_hear_17 : decode cX6_hear 17 = .ok (.ireturn, 1) := by decide +kernel
theorem dX6_hear_18 : decode cX6_hear 18 = .ok (.iload_n 3, 1) := by decide +kernel
theorem dX6_hear_19 : decode cX6_hear 19 = .ok (.i2l, 1) := by decide +kernel
theorem dX6_hear_20 : decode cX6_hear 20 = .ok (.lconst 0, 1) := by decide +kernel
theorem dX6_hear_21 : decode cX6_hear 21 = .ok (.lconst 1, 1) := by decide +kernel
theorem dX6_hear_22 : decode cX6_hear 22 = .ok (.invokestatic 58, 3) := by decide +kernel
theorem dX6_hear_25 : decode cX6_hear 25 = .ok (.ifCond .eq 14, 3) := by decide +kernel
theorem dX6_hear_28 : decode cX6_hear 28 = .ok (.iload 4, 2) := by decide +kernel
theorem dX6_hear_30 : decode cX6_hear 30 = .ok (.i2l, 1) := by decide +kernel
theorem dX6_hear_31 : decode cX6_hear 31 = .ok (.lconst 0, 1) := by decide +kernel
theorem dX6_hear_32 : decode cX6_hear 32 = .ok (.lconst 1, 1) := by decide +kernel
theorem dX6_hear_33 : decode cX6_hear 33 = .ok (.invokestatic 58, 3) := by decide +kernel
theorem dX6_hear_36 : decode cX6_hear 36 = .ok (.ifCond .ne 6, 3) := by decide +kernel
theorem dX6_hear_39 : decode cX6_hear 39 = .ok (.bipush (-2), 2) := by decide +kernel
theorem dX6_hear_41 : decode cX6_hear 41 = .ok (.ireturn, 1) := by decide +kernel
theorem dX6_hear_42 : decode cX6_hear 42 = .ok (.aload_n 0, 1) := by decide +kernel
theorem dX6_hear_43 : decode cX6_hear 43 = .ok (.getfield 154, 3) := by decide +kernel
theorem dX6_hear_46 : decode cX6_hear 46 = .ok (.bipush 6, 2) := by decide +kernel
theorem dX6_hear_48 : decode cX6_hear 48 = .ok (.if_icmp .ne 6, 3) := by decide +kernel
theorem dX6_hear_51 : decode cX6_hear 51 = .ok (.bipush (-4), 2) := by decide +kernel
theorem dX6_hear_53 : decode cX6_hear 53 = .ok (.ireturn, 1) := by decide +kernel
theorem dX6_hear_54 : decode cX6_hear 54 = .ok (.aload_n 0, 1) := by decide +kernel
theorem dX6_hear_55 : decode cX6_hear 55 = .ok (.getfield 37, 3) := by decide +kernel
theorem dX6_hear_58 : decode cX6_hear 58 = .ok (.aload_n 0, 1) := by decide +kernel
theorem dX6_hear_59 : decode cX6_hear 59 = .ok (.getfield 154, 3) := by decide +kernel
theorem dX6_hear_62 : decode cX6_hear 62 = .ok (.iload_n 1, 1) := by decide +kernel
theorem dX6_hear_63 : decode cX6_hear 63 = .ok (.iastore, 1) := by decide +kernel
theorem dX6_hear_64 : decode cX6_hear 64 = .ok (.aload_n 0, 1) := by decide +kernel
theorem dX6_hear_65 : decode cX6_hear 65 = .ok (.getfield 40, 3) := by decide +kernel
theorem dX6_hear_68 : decode cX6_hear 68 = .ok (.aload_n 0, 1) := by decide +kernel
theorem dX6_hear_69 : decode cX6_hear 69 = .ok (.getfield 154, 3) := by decide +kernel
theorem dX6_hear_72 : decode cX6_hear 72 = .ok (.iload_n 2, 1) := by decide +kernel
theorem dX6_hear_73 : decode cX6_hear 73 = .ok (.iastore, 1) := by decide +kernel
theorem dX6_hear_74 : decode cX6_hear 74 = .ok (.aload_n 0, 1) := by decide +kernel
theorem dX6_hear_75 : decode cX6_hear 75 = .ok (.getfield 43, 3) := by decide +kernel
theorem dX6_hear_78 : decode cX6_hear 78 = .ok (.aload_n 0, 1) := by decide +kernel
theorem dX6_hear_79 : decode cX6_hear 79 = .ok (.getfield 154, 3) := by decide +kernel
theorem dX6_hear_82 : decode cX6_hear 82 = .ok (.iload_n 3, 1) := by decide +kernel
theorem dX6_hear_83 : decode cX6_hear 83 = .ok (.iastore, 1) := by decide +kernel
theorem dX6_hear_84 : decode cX6_hear 84 = .ok (.aload_n 0, 1) := by decide +kernel
theorem dX6_hear_85 : decode cX6_hear 85 = .ok (.getfield 46, 3) := by decide +kernel
theorem dX6_hear_88 : decode cX6_hear 88 = .ok (.aload_n 0, 1) := by decide +kernel
theorem dX6_hear_89 : decode cX6_hear 89 = .ok (.getfield 154, 3) := by decide +kernel
theorem dX6_hear_92 : decode cX6_hear 92 = .ok (.iload 4, 2) := by decide +kernel
theorem dX6_hear_94 : decode cX6_hear 94 = .ok (.iastore, 1) := by decide +kernel
theorem dX6_hear_95 : decode cX6_hear 95 = .ok (.aload_n 0, 1) := by decide +kernel
theorem dX6_hear_96 : decode cX6_hear 96 = .ok (.dup, 1) := by decide +kernel
theorem dX6_hear_97 : decode cX6_hear 97 = .ok (.getfield 154, 3) := by decide +kernel
theorem dX6_hear_100 : decode cX6_hear 100 = .ok (.iconst 1, 1) := by decide +kernel
theorem dX6_hear_101 : decode cX6_hear 101 = .ok (.iadd, 1) := by decide +kernel
theorem dX6_hear_102 : decode cX6_hear 102 = .ok (.putfield 154, 3) := by decide +kernel
theorem dX6_hear_105 : decode cX6_hear 105 = .ok (.aload_n 0, 1) := by decide +kernel
theorem dX6_hear_106 : decode cX6_hear 106 = .ok (.getfield 154, 3) := by decide +kernel
theorem dX6_hear_109 : decode cX6_hear 109 = .ok (.ireturn, 1) := by decide +kernel
theorem dX6_unhear_0 : decode cX6_unhear 0 = .ok (.aload_n 0, 1) := by decide +kernel
theorem dX6_unhear_1 : decode cX6_unhear 1 = .ok (.getfield 154, 3) := by decide +kernel
theorem dX6_unhear_4 : decode cX6_unhear 4 = .ok (.istore_n 1, 1) := by decide +kernel
theorem dX6_unhear_5 : decode cX6_unhear 5 = .ok (.aload_n 0, 1) := by decide +kernel
theorem dX6_unhear_6 : decode cX6_unhear 6 = .ok (.iconst 0, 1) := by decide +kernel
theorem dX6_unhear_7 : decode cX6_unhear 7 = .ok (.putfield 154, 3) := by decide +kernel
theorem dX6_unhear_10 : decode cX6_unhear 10 = .ok (.iload_n 1, 1) := by decide +kernel
theorem dX6_unhear_11 : decode cX6_unhear 11 = .ok (.ireturn, 1) := by decide +kernel
theorem dX6_mayExpect_0 : decode cX6_mayExpect 0 = .ok (.iconst 1, 1) := by decide +kernel
theorem dX6_mayExpect_1 : decode cX6_mayExpect 1 = .ok (.istore_n 3, 1) := by decide +kernel
theorem dX6_mayExpect_2 : decode cX6_mayExpect 2 = .ok (.iconst 0, 1) := by decide +kernel
theorem dX6_mayExpect_3 : decode cX6_mayExpect 3 = .ok (.istore 4, 2) := by decide +kernel
theorem dX6_mayExpect_5 : decode cX6_mayExpect 5 = .ok (.iload 4, 2) := by decide +kernel
theorem dX6_mayExpect_7 : decode cX6_mayExpect 7 = .ok (.aload_n 0, 1) := by decide +kernel
theorem dX6_mayExpect_8 : decode cX6_mayExpect 8 = .ok (.getfield 154, 3) := by decide +kernel
theorem dX6_mayExpect_11 : decode cX6_mayExpect 11 = .ok (.if_icmp .ge 107, 3) := by decide +kernel
theorem dX6_mayExpect_14 : decode cX6_mayExpect 14 = .ok (.aload_n 0, 1) := by decide +kernel
theorem dX6_mayExpect_15 : decode cX6_mayExpect 15 = .ok (.getfield 37, 3) := by decide +kernel
theorem dX6_mayExpect_18 : decode cX6_mayExpect 18 = .ok (.iload 4, 2) := by decide +kernel
theorem dX6_mayExpect_20 : decode cX6_mayExpect 20 = .ok (.iaload, 1) := by decide +kernel
theorem dX6_mayExpect_21 : decode cX6_mayExpect 21 = .ok (.iload_n 1, 1) := by decide +kernel
theorem dX6_mayExpect_22 : decode cX6_mayExpect 22 = .ok (.if_icmp .ne 90, 3) := by decide +kernel
theorem dX6_mayExpect_25 : decode cX6_mayExpect 25 = .ok (.aload_n 0, 1) := by decide +kernel
theorem dX6_mayExpect_26 : decode cX6_mayExpect 26 = .ok (.aload_n 0, 1) := by decide +kernel
theorem dX6_mayExpect_27 : decode cX6_mayExpect 27 = .ok (.getfield 40, 3) := by decide +kernel
theorem dX6_mayExpect_30 : decode cX6_mayExpect 30 = .ok (.iload 4, 2) := by decide +kernel
theorem dX6_mayExpect_32 : decode cX6_mayExpect 32 = .ok (.iaload, 1) := by decide +kernel
theorem dX6_mayExpect_33 : decode cX6_mayExpect 33 = .ok (.invokevirtual 118, 3) := by decide +kernel
theorem dX6_mayExpect_36 : decode cX6_mayExpect 36 = .ok (.ifCond .eq 76, 3) := by decide +kernel
theorem dX6_mayExpect_39 : decode cX6_mayExpect 39 = .ok (.aload_n 0, 1) := by decide +kernel
theorem dX6_mayExpect_40 : decode cX6_mayExpect 40 = .ok (.getfield 43, 3) := by decide +kernel
theorem dX6_mayExpect_43 : decode cX6_mayExpect 43 = .ok (.iload 4, 2) := by decide +kernel
theorem dX6_mayExpect_45 : decode cX6_mayExpect 45 = .ok (.iaload, 1) := by decide +kernel
theorem dX6_mayExpect_46 : decode cX6_mayExpect 46 = .ok (.iconst 1, 1) := by decide +kernel
theorem dX6_mayExpect_47 : decode cX6_mayExpect 47 = .ok (.if_icmp .ne 18, 3) := by decide +kernel
theorem dX6_mayExpect_50 : decode cX6_mayExpect 50 = .ok (.aload_n 0, 1) := by decide +kernel
theorem dX6_mayExpect_51 : decode cX6_mayExpect 51 = .ok (.getfield 19, 3) := by decide +kernel
theorem dX6_mayExpect_54 : decode cX6_mayExpect 54 = .ok (.aload_n 0, 1) := by decide +kernel
theorem dX6_mayExpect_55 : decode cX6_mayExpect 55 = .ok (.getfield 40, 3) := by decide +kernel
theorem dX6_mayExpect_58 : decode cX6_mayExpect 58 = .ok (.iload 4, 2) := by decide +kernel
theorem dX6_mayExpect_60 : decode cX6_mayExpect 60 = .ok (.iaload, 1) := by decide +kernel
theorem dX6_mayExpect_61 : decode cX6_mayExpect 61 = .ok (.iaload, 1) := by decide +kernel
theorem dX6_mayExpect_62 : decode cX6_mayExpect 62 = .ok (.goto 4, 3) := by decide +kernel
theorem dX6_mayExpect_65 : decode cX6_mayExpect 65 = .ok (.iconst 0, 1) := by decide +kernel
theorem dX6_mayExpect_66 : decode cX6_mayExpect 66 = .ok (.istore 5, 2) := by decide +kernel
theorem dX6_mayExpect_68 : decode cX6_mayExpect 68 = .ok (.iload_n 3, 1) := by decide +kernel
theorem dX6_mayExpect_69 : decode cX6_mayExpect 69 = .ok (.ifCond .eq 41, 3) := by decide +kernel
theorem dX6_mayExpect_72 : decode cX6_mayExpect 72 = .ok (.aload_n 0, 1) := by decide +kernel
theorem dX6_mayExpect_73 : decode cX6_mayExpect 73 = .ok (.iload_n 1, 1) := by decide +kernel
theorem dX6_mayExpect_74 : decode cX6_mayExpect 74 = .ok (.aload_n 0, 1) := by decide +kernel
theorem dX6_mayExpect_75 : decode cX6_mayExpect 75 = .ok (.iload_n 1, 1) := by decide +kernel
theorem dX6_mayExpect_76 : decode cX6_mayExpect 76 = .ok (.iload_n 2, 1) := by decide +kernel
theorem dX6_mayExpect_77 : decode cX6_mayExpect 77 = .ok (.iload 5, 2) := by decide +kernel
theorem dX6_mayExpect_79 : decode cX6_mayExpect 79 = .ok (.iconst 1, 1) := by decide +kernel
theorem dX6_mayExpect_80 : decode cX6_mayExpect 80 = .ok (.iconst 0, 1) := by decide +kernel
theorem dX6_mayExpect_81 : decode cX6_mayExpect 81 = .ok (.invokevirtual 95, 3) := by decide +kernel
theorem dX6_mayExpect_84 : decode cX6_mayExpect 84 = .ok (.invokevirtual 103, 3) := by decide +kernel
theorem dX6_mayExpect_87 : decode cX6_mayExpect 87 = .ok (.aload_n 0, 1) := by decide +kernel
theorem dX6_mayExpect_88 : decode cX6_mayExpect 88 = .ok (.getfield 46, 3) := by decide +kernel
theorem dX6_mayExpect_91 : decode cX6_mayExpect 91 = .ok (.iload 4, 2) := by decide +kernel
theorem dX6_mayExpect_93 : decode cX6_mayExpect 93 = .ok (.iaload, 1) := by decide +kernel
theorem dX6_mayExpect_94 : decode cX6_mayExpect 94 = .ok (.iconst 1, 1) := by decide +kernel
theorem dX6_mayExpect_95 : decode cX6_mayExpect 95 = .ok (.if_icmp .ne 7, 3) := by decide +kernel
theorem dX6_mayExpect_98 : decode cX6_mayExpect 98 = .ok (.iconst 1, 1) := by decide +kernel
theorem dX6_mayExpect_99 : decode cX6_mayExpect 99 = .ok (.goto 4, 3) := by decide +kernel
theorem dX6_mayExpect_102 : decode cX6_mayExpect 102 = .ok (.iconst 0, 1) := by decide +kernel
theorem dX6_mayExpect_103 : decode cX6_mayExpect 103 = .ok (.if_icmp .ne 7, 3) := by decide +kernel
theorem dX6_mayExpect_106 : decode cX6_mayExpect 106 = .ok (.iconst 1, 1) := by decide +kernel
theorem dX6_mayExpect_107 : decode cX6_mayExpect 107 = .ok (.goto 4, 3) := by decide +kernel
theorem dX6_mayExpect_110 : decode cX6_mayExpect 110 = .ok (.iconst 0, 1) := by decide +kernel
theorem dX6_mayExpect_111 : decode cX6_mayExpect 111 = .ok (.istore_n 3, 1) := by decide +kernel
theorem dX6_mayExpect_112 : decode cX6_mayExpect 112 = .ok (.iinc 4 1, 3) := by decide +kernel
theorem dX6_mayExpect_115 : decode cX6_mayExpect 115 = .ok (.goto (-110), 3) := by decide +kernel
theorem dX6_mayExpect_118 : decode cX6_mayExpect 118 = .ok (.iload_n 3, 1) := by decide +kernel
theorem dX6_mayExpect_119 : decode cX6_mayExpect 119 = .ok (.ireturn, 1) := by decide +kernel
theorem dX6_expect_0 : decode cX6_expect 0 = .ok (.aload_n 0, 1) := by decide +kernel
theorem dX6_expect_1 : decode cX6_expect 1 = .ok (.iload_n 1, 1) := by decide +kernel
theorem dX6_expect_2 : decode cX6_expect 2 = .ok (.invokevirtual 111, 3) := by decide +kernel
theorem dX6_expect_5 : decode cX6_expect 5 = .ok (.ifCond .ne 5, 3) := by decide +kernel
theorem dX6_expect_8 : decode cX6_expect 8 = .ok (.iconst (-1), 1) := by decide +kernel
theorem dX6_expect_9 : decode cX6_expect 9 = .ok (.ireturn, 1) := by decide +kernel
theorem dX6_expect_10 : decode cX6_expect 10 = .ok (.iconst 0, 1) := by decide +kernel
theorem dX6_expect_11 : decode cX6_expect 11 = .ok (.istore_n 2, 1) := by decide +kernel
theorem dX6_expect_12 : decode cX6_expect 12 = .ok (.iconst 0, 1) := by decide +kernel
theorem dX6_expect_13 : decode cX6_expect 13 = .ok (.istore_n 3, 1) := by decide +kernel
theorem dX6_expect_14 : decode cX6_expect 14 = .ok (.iload_n 3, 1) := by decide +kernel
theorem dX6_expect_15 : decode cX6_expect 15 = .ok (.bipush 10, 2) := by decide +kernel
theorem dX6_expect_17 : decode cX6_expect 17 = .ok (.if_icmp .ge 28, 3) := by decide +kernel
theorem dX6_expect_20 : decode cX6_expect 20 = .ok (.iload_n 2, 1) := by decide +kernel
theorem dX6_expect_21 : decode cX6_expect 21 = .ok (.aload_n 0, 1) := by decide +kernel
theorem dX6_expect_22 : decode cX6_expect 22 = .ok (.iload_n 1, 1) := by decide +kernel
theorem dX6_expect_23 : decode cX6_expect 23 = .ok (.iload_n 3, 1) := by decide +kernel
theorem dX6_expect_24 : decode cX6_expect 24 = .ok (.invokevirtual 157, 3) := by decide +kernel
theorem dX6_expect_27 : decode cX6_expect 27 = .ok (.ifCond .eq 9, 3) := by decide +kernel
theorem dX6_expect_30 : decode cX6_expect 30 = .ok (.iconst 1, 1) := by decide +kernel
theorem dX6_expect_31 : decode cX6_expect 31 = .ok (.iload_n 3, 1) := by decide +kernel
theorem dX6_expect_32 : decode cX6_expect 32 = .ok (.ishl, 1) := by decide +kernel
theorem dX6_expect_33 : decode cX6_expect 33 = .ok (.goto 4, 3) := by decide +kernel
theorem dX6_expect_36 : decode cX6_expect 36 = .ok (.iconst 0, 1) := by decide +kernel
theorem dX6_expect_37 : decode cX6_expect 37 = .ok (.ior, 1) := by decide +kernel
theorem dX6_expect_38 : decode cX6_expect 38 = .ok (.istore_n 2, 1) := by decide +kernel
theorem dX6_expect_39 : decode cX6_expect 39 = .ok (.iinc 3 1, 3) := by decide +kernel
theorem dX6_expect_42 : decode cX6_expect 42 = .ok (.goto (-28), 3) := by decide +kernel
theorem dX6_expect_45 : decode cX6_expect 45 = .ok (.iload_n 2, 1) := by decide +kernel
theorem dX6_expect_46 : decode cX6_expect 46 = .ok (.ireturn, 1) := by decide +kernel
theorem dX6_sampleIn_0 : decode cX6_sampleIn 0 = .ok (.iload_n 2, 1) := by decide +kernel
theorem dX6_sampleIn_1 : decode cX6_sampleIn 1 = .ok (.bipush 10, 2) := by decide +kernel
theorem dX6_sampleIn_3 : decode cX6_sampleIn 3 = .ok (.iload_n 1, 1) := by decide +kernel
theorem dX6_sampleIn_4 : decode cX6_sampleIn 4 = .ok (.iconst 1, 1) := by decide +kernel
theorem dX6_sampleIn_5 : decode cX6_sampleIn 5 = .ok (.isub, 1) := by decide +kernel
theorem dX6_sampleIn_6 : decode cX6_sampleIn 6 = .ok (.iload_n 3, 1) := by decide +kernel
theorem dX6_sampleIn_7 : decode cX6_sampleIn 7 = .ok (.isub, 1) := by decide +kernel
theorem dX6_sampleIn_8 : decode cX6_sampleIn 8 = .ok (.invokestatic 145, 3) := by decide +kernel
theorem dX6_sampleIn_11 : decode cX6_sampleIn 11 = .ok (.idiv, 1) := by decide +kernel
theorem dX6_sampleIn_12 : decode cX6_sampleIn 12 = .ok (.bipush 10, 2) := by decide +kernel
theorem dX6_sampleIn_14 : decode cX6_sampleIn 14 = .ok (.irem, 1) := by decide +kernel
theorem dX6_sampleIn_15 : decode cX6_sampleIn 15 = .ok (.iconst 1, 1) := by decide +kernel
theorem dX6_sampleIn_16 : decode cX6_sampleIn 16 = .ok (.isub, 1) := by decide +kernel
theorem dX6_sampleIn_17 : decode cX6_sampleIn 17 = .ok (.ireturn, 1) := by decide +kernel
theorem dX6_isGone_0 : decode cX6_isGone 0 = .ok (.iconst 1, 1) := by decide +kernel
theorem dX6_isGone_1 : decode cX6_isGone 1 = .ok (.istore 6, 2) := by decide +kernel
theorem dX6_isGone_3 : decode cX6_isGone 3 = .ok (.iconst 0, 1) := by decide +kernel
theorem dX6_isGone_4 : decode cX6_isGone 4 = .ok (.istore 7, 2) := by decide +kernel
theorem dX6_isGone_6 : decode cX6_isGone 6 = .ok (.iload 7, 2) := by decide +kernel
theorem dX6_isGone_8 : decode cX6_isGone 8 = .ok (.iload_n 2, 1) := by decide +kernel
theorem dX6_isGone_9 : decode cX6_isGone 9 = .ok (.if_icmp .ge 94, 3) := by decide +kernel
theorem dX6_isGone_12 : decode cX6_isGone 12 = .ok (.iload 7, 2) := by decide +kernel
theorem dX6_isGone_14 : decode cX6_isGone 14 = .ok (.iload 5, 2) := by decide +kernel
theorem dX6_isGone_16 : decode cX6_isGone 16 = .ok (.if_icmp .ge 19, 3) := by decide +kernel
theorem dX6_isGone_19 : decode cX6_isGone 19 = .ok (.aload_n 0, 1) := by decide +kernel
theorem dX6_isGone_20 : decode cX6_isGone 20 = .ok (.getfield 19, 3) := by decide +kernel
theorem dX6_isGone_23 : decode cX6_isGone 23 = .ok (.aload_n 0, 1) := by decide +kernel
theorem dX6_isGone_24 : decode cX6_isGone 24 = .ok (.iload_n 2, 1) := by decide +kernel
theorem dX6_isGone_25 : decode cX6_isGone 25 = .ok (.iload_n 3, 1) := by decide +kernel
theorem dX6_isGone_26 : decode cX6_isGone 26 = .ok (.iload 7, 2) := by decide +kernel
theorem dX6_isGone_28 : decode cX6_isGone 28 = .ok (.invokevirtual 160, 3) := by decide +kernel
theorem dX6_isGone_31 : decode cX6_isGone 31 = .ok (.iaload, 1) := by decide +kernel
theorem dX6_isGone_32 : decode cX6_isGone 32 = .ok (.goto 4, 3) := by decide +kernel
theorem dX6_isGone_35 : decode cX6_isGone 35 = .ok (.iconst 0, 1) := by decide +kernel
theorem dX6_isGone_36 : decode cX6_isGone 36 = .ok (.istore 8, 2) := by decide +kernel
theorem dX6_isGone_38 : decode cX6_isGone 38 = .ok (.iload 7, 2) := by decide +kernel
theorem dX6_isGone_40 : decode cX6_isGone 40 = .ok (.bipush 9, 2) := by decide +kernel
theorem dX6_isGone_42 : decode cX6_isGone 42 = .ok (.if_icmp .ge 8, 3) := by decide +kernel
theorem dX6_isGone_45 : decode cX6_isGone 45 = .ok (.iload 7, 2) := by decide +kernel
theorem dX6_isGone_47 : decode cX6_isGone 47 = .ok (.goto 5, 3) := by decide +kernel
theorem dX6_isGone_50 : decode cX6_isGone 50 = .ok (.bipush 9, 2) := by decide +kernel
theorem dX6_isGone_52 : decode cX6_isGone 52 = .ok (.istore 9, 2) := by decide +kernel
theorem dX6_isGone_54 : decode cX6_isGone 54 = .ok (.iload 6, 2) := by decide +kernel
theorem dX6_isGone_56 : decode cX6_isGone 56 = .ok (.ifCond .eq 38, 3) := by decide +kernel
theorem dX6_isGone_59 : decode cX6_isGone 59 = .ok (.aload_n 0, 1) := by decide +kernel
theorem dX6_isGone_60 : decode cX6_isGone 60 = .ok (.iload_n 1, 1) := by decide +kernel
theorem dX6_isGone_61 : decode cX6_isGone 61 = .ok (.aload_n 0, 1) := by decide +kernel
theorem dX6_isGone_62 : decode cX6_isGone 62 = .ok (.iload_n 1, 1) := by decide +kernel
theorem dX6_isGone_63 : decode cX6_isGone 63 = .ok (.aload_n 0, 1) := by decide +kernel
theorem dX6_isGone_64 : decode cX6_isGone 64 = .ok (.getfield 7, 3) := by decide +kernel
theorem dX6_isGone_67 : decode cX6_isGone 67 = .ok (.iload_n 1, 1) := by decide +kernel
theorem dX6_isGone_68 : decode cX6_isGone 68 = .ok (.iaload, 1) := by decide +kernel
theorem dX6_isGone_69 : decode cX6_isGone 69 = .ok (.iload 8, 2) := by decide +kernel
theorem dX6_isGone_71 : decode cX6_isGone 71 = .ok (.iconst 1, 1) := by decide +kernel
theorem dX6_isGone_72 : decode cX6_isGone 72 = .ok (.iload 9, 2) := by decide +kernel
theorem dX6_isGone_74 : decode cX6_isGone 74 = .ok (.invokevirtual 95, 3) := by decide +kernel
theorem dX6_isGone_77 : decode cX6_isGone 77 = .ok (.invokevirtual 103, 3) := by decide +kernel
theorem dX6_isGone_80 : decode cX6_isGone 80 = .ok (.iload 4, 2) := by decide +kernel
theorem dX6_isGone_82 : decode cX6_isGone 82 = .ok (.iload 7, 2) := by decide +kernel
theorem dX6_isGone_84 : decode cX6_isGone 84 = .ok (.invokestatic 115, 3) := by decide +kernel
theorem dX6_isGone_87 : decode cX6_isGone 87 = .ok (.if_icmp .ne 7, 3) := by decide +kernel
theorem dX6_isGone_90 : decode cX6_isGone 90 = .ok (.iconst 1, 1) := by decide +kernel
theorem dX6_isGone_91 : decode cX6_isGone 91 = .ok (.goto 4, 3) := by decide +kernel
theorem dX6_isGone_94 : decode cX6_isGone 94 = .ok (.iconst 0, 1) := by decide +kernel
theorem dX6_isGone_95 : decode cX6_isGone 95 = .ok (.istore 6, 2) := by decide +kernel
theorem dX6_isGone_97 : decode cX6_isGone 97 = .ok (.iinc 7 1, 3) := by decide +kernel
theorem dX6_isGone_100 : decode cX6_isGone 100 = .ok (.goto (-94), 3) := by decide +kernel
theorem dX6_isGone_103 : decode cX6_isGone 103 = .ok (.iload 6, 2) := by decide +kernel
theorem dX6_isGone_105 : decode cX6_isGone 105 = .ok (.ireturn, 1) := by decide +kernel
theorem dX6_gone_0 : decode cX6_gone 0 = .ok (.aload_n 0, 1) := by decide +kernel
theorem dX6_gone_1 : decode cX6_gone 1 = .ok (.iload_n 1, 1) := by decide +kernel
theorem dX6_gone_2 : decode cX6_gone 2 = .ok (.invokevirtual 111, 3) := by decide +kernel
theorem dX6_gone_5 : decode cX6_gone 5 = .ok (.ifCond .ne 5, 3) := by decide +kernel
theorem dX6_gone_8 : decode cX6_gone 8 = .ok (.iconst (-1), 1) := by decide +kernel
theorem dX6_gone_9 : decode cX6_gone 9 = .ok (.ireturn, 1) := by decide +kernel
theorem dX6_gone_10 : decode cX6_gone 10 = .ok (.iload_n 2, 1) := by decide +kernel
theorem dX6_gone_11 : decode cX6_gone 11 = .ok (.i2l, 1) := by decide +kernel
theorem dX6_gone_12 : decode cX6_gone 12 = .ok (.lconst 1, 1) := by decide +kernel
theorem dX6_gone_13 : decode cX6_gone 13 = .ok (.ldc2_w 163, 3) := by decide +kernel
theorem dX6_gone_16 : decode cX6_gone 16 = .ok (.invokestatic 58, 3) := by decide +kernel
theorem dX6_gone_19 : decode cX6_gone 19 = .ok (.ifCond .eq 37, 3) := by decide +kernel
theorem dX6_gone_22 : decode cX6_gone 22 = .ok (.iload_n 3, 1) := by decide +kernel
theorem dX6_gone_23 : decode cX6_gone 23 = .ok (.i2l, 1) := by decide +kernel
theorem dX6_gone_24 : decode cX6_gone 24 = .ok (.lconst 0, 1) := by decide +kernel
theorem dX6_gone_25 : decode cX6_gone 25 = .ok (.bipush 10, 2) := by decide +kernel
theorem dX6_gone_27 : decode cX6_gone 27 = .ok (.iload_n 2, 1) := by decide +kernel
theorem dX6_gone_28 : decode cX6_gone 28 = .ok (.invokestatic 145, 3) := by decide +kernel
theorem dX6_gone_31 : decode cX6_gone 31 = .ok (.iconst 1, 1) := by decide +kernel
theorem dX6_gone_32 : decode cX6_gone 32 = .ok (.isub, 1) := by decide +kernel
theorem dX6_gone_33 : decode cX6_gone 33 = .ok (.i2l, 1) := by decide +kernel
theorem dX6_gone_34 : decode cX6_gone 34 = .ok (.invokestatic 58, 3) := by decide +kernel
theorem dX6_gone_37 : decode cX6_gone 37 = .ok (.ifCond .eq 19, 3) := by decide +kernel
theorem dX6_gone_40 : decode cX6_gone 40 = .ok (.iload 4, 2) := by decide +kernel
theorem dX6_gone_42 : decode cX6_gone 42 = .ok (.i2l, 1) := by decide +kernel
theorem dX6_gone_43 : decode cX6_gone 43 = .ok (.lconst 0, 1) := by decide +kernel
theorem dX6_gone_44 : decode cX6_gone 44 = .ok (.iconst 1, 1) := by decide +kernel
theorem dX6_gone_45 : decode cX6_gone 45 = .ok (.iload_n 2, 1) := by decide +kernel
theorem dX6_gone_46 : decode cX6_gone 46 = .ok (.ishl, 1) := by decide +kernel
theorem dX6_gone_47 : decode cX6_gone 47 = .ok (.iconst 1, 1) := by decide +kernel
theorem dX6_gone_48 : decode cX6_gone 48 = .ok (.isub, 1) := by decide +kernel
theorem dX6_gone_49 : decode cX6_gone 49 = .ok (.i2l, 1) := by decide +kernel
theorem dX6_gone_50 : decode cX6_gone 50 = .ok (.invokestatic 58, 3) := by decide +kernel
theorem dX6_gone_53 : decode cX6_gone 53 = .ok (.ifCond .ne 6, 3) := by decide +kernel
theorem dX6_gone_56 : decode cX6_gone 56 = .ok (.bipush (-2), 2) := by decide +kernel
theorem dX6_gone_58 : decode cX6_gone 58 = .ok (.ireturn, 1) := by decide +kernel
theorem dX6_gone_59 : decode cX6_gone 59 = .ok (.iconst 0, 1) := by decide +kernel
theorem dX6_gone_60 : decode cX6_gone 60 = .ok (.istore 5, 2) := by decide +kernel
theorem dX6_gone_62 : decode cX6_gone 62 = .ok (.iload 5, 2) := by decide +kernel
theorem dX6_gone_64 : decode cX6_gone 64 = .ok (.iload_n 2, 1) := by decide +kernel
theorem dX6_gone_65 : decode cX6_gone 65 = .ok (.if_icmp .ge 27, 3) := by decide +kernel
theorem dX6_gone_68 : decode cX6_gone 68 = .ok (.aload_n 0, 1) := by decide +kernel
theorem dX6_gone_69 : decode cX6_gone 69 = .ok (.aload_n 0, 1) := by decide +kernel
theorem dX6_gone_70 : decode cX6_gone 70 = .ok (.iload_n 2, 1) := by decide +kernel
theorem dX6_gone_71 : decode cX6_gone 71 = .ok (.iload_n 3, 1) := by decide +kernel
theorem dX6_gone_72 : decode cX6_gone 72 = .ok (.iload 5, 2) := by decide +kernel
theorem dX6_gone_74 : decode cX6_gone 74 = .ok (.invokevirtual 160, 3) := by decide +kernel
theorem dX6_gone_77 : decode cX6_gone 77 = .ok (.invokevirtual 118, 3) := by decide +kernel
theorem dX6_gone_80 : decode cX6_gone 80 = .ok (.ifCond .ne 6, 3) := by decide +kernel
theorem dX6_gone_83 : decode cX6_gone 83 = .ok (.bipush (-3), 2) := by decide +kernel
theorem dX6_gone_85 : decode cX6_gone 85 = .ok (.ireturn, 1) := by decide +kernel
theorem dX6_gone_86 : decode cX6_gone 86 = .ok (.iinc 5 1, 3) := by decide +kernel
theorem dX6_gone_89 : decode cX6_gone 89 = .ok (.goto (-27), 3) := by decide +kernel
theorem dX6_gone_92 : decode cX6_gone 92 = .ok (.iconst 0, 1) := by decide +kernel
theorem dX6_gone_93 : decode cX6_gone 93 = .ok (.istore 5, 2) := by decide +kernel
theorem dX6_gone_95 : decode cX6_gone 95 = .ok (.iconst 0, 1) := by decide +kernel
theorem dX6_gone_96 : decode cX6_gone 96 = .ok (.istore 6, 2) := by decide +kernel
theorem dX6_gone_98 : decode cX6_gone 98 = .ok (.iload 6, 2) := by decide +kernel
theorem dX6_gone_100 : decode cX6_gone 100 = .ok (.iload_n 2, 1) := by decide +kernel
theorem dX6_gone_101 : decode cX6_gone 101 = .ok (.if_icmp .gt 36, 3) := by decide +kernel
theorem dX6_gone_104 : decode cX6_gone 104 = .ok (.iload 5, 2) := by decide +kernel
theorem dX6_gone_106 : decode cX6_gone 106 = .ok (.aload_n 0, 1) := by decide +kernel
theorem dX6_gone_107 : decode cX6_gone 107 = .ok (.iload_n 1, 1) := by decide +kernel
theorem dX6_gone_108 : decode cX6_gone 108 = .ok (.iload_n 2, 1) := by decide +kernel
theorem dX6_gone_109 : decode cX6_gone 109 = .ok (.iload_n 3, 1) := by decide +kernel
theorem dX6_gone_110 : decode cX6_gone 110 = .ok (.iload 4, 2) := by decide +kernel
theorem dX6_gone_112 : decode cX6_gone 112 = .ok (.iload 6, 2) := by decide +kernel
theorem dX6_gone_114 : decode cX6_gone 114 = .ok (.invokevirtual 165, 3) := by decide +kernel
theorem dX6_gone_117 : decode cX6_gone 117 = .ok (.ifCond .eq 10, 3) := by decide +kernel
theorem dX6_gone_120 : decode cX6_gone 120 = .ok (.iconst 1, 1) := by decide +kernel
theorem dX6_gone_121 : decode cX6_gone 121 = .ok (.iload 6, 2) := by decide +kernel
theorem dX6_gone_123 : decode cX6_gone 123 = .ok (.ishl, 1) := by decide +kernel
theorem dX6_gone_124 : decode cX6_gone 124 = .ok (.goto 4, 3) := by decide +kernel
theorem dX6_gone_127 : decode cX6_gone 127 = .ok (.iconst 0, 1) := by decide +kernel
theorem dX6_gone_128 : decode cX6_gone 128 = .ok (.ior, 1) := by decide +kernel
theorem dX6_gone_129 : decode cX6_gone 129 = .ok (.istore 5, 2) := by decide +kernel
theorem dX6_gone_131 : decode cX6_gone 131 = .ok (.iinc 6 1, 3) := by decide +kernel
theorem dX6_gone_134 : decode cX6_gone 134 = .ok (.goto (-36), 3) := by decide +kernel
theorem dX6_gone_137 : decode cX6_gone 137 = .ok (.iload 5, 2) := by decide +kernel
theorem dX6_gone_139 : decode cX6_gone 139 = .ok (.ireturn, 1) := by decide +kernel
theorem dX6_factorial_0 : decode cX6_factorial 0 = .ok (.iconst 1, 1) := by decide +kernel
theorem dX6_factorial_1 : decode cX6_factorial 1 = .ok (.istore_n 1, 1) := by decide +kernel
theorem dX6_factorial_2 : decode cX6_factorial 2 = .ok (.iconst 2, 1) := by decide +kernel
theorem dX6_factorial_3 : decode cX6_factorial 3 = .ok (.istore_n 2, 1) := by decide +kernel
theorem dX6_factorial_4 : decode cX6_factorial 4 = .ok (.iload_n 2, 1) := by decide +kernel
theorem dX6_factorial_5 : decode cX6_factorial 5 = .ok (.iload_n 0, 1) := by decide +kernel
theorem dX6_factorial_6 : decode cX6_factorial 6 = .ok (.if_icmp .gt 13, 3) := by decide +kernel
theorem dX6_factorial_9 : decode cX6_factorial 9 = .ok (.iload_n 1, 1) := by decide +kernel
theorem dX6_factorial_10 : decode cX6_factorial 10 = .ok (.iload_n 2, 1) := by decide +kernel
theorem dX6_factorial_11 : decode cX6_factorial 11 = .ok (.imul, 1) := by decide +kernel
theorem dX6_factorial_12 : decode cX6_factorial 12 = .ok (.istore_n 1, 1) := by decide +kernel
theorem dX6_factorial_13 : decode cX6_factorial 13 = .ok (.iinc 2 1, 3) := by decide +kernel
theorem dX6_factorial_16 : decode cX6_factorial 16 = .ok (.goto (-12), 3) := by decide +kernel
theorem dX6_factorial_19 : decode cX6_factorial 19 = .ok (.iload_n 1, 1) := by decide +kernel
theorem dX6_factorial_20 : decode cX6_factorial 20 = .ok (.ireturn, 1) := by decide +kernel
theorem dX6_common_0 : decode cX6_common 0 = .ok (.iload_n 0, 1) := by decide +kernel
theorem dX6_common_1 : decode cX6_common 1 = .ok (.ifCond .ge 8, 3) := by decide +kernel
theorem dX6_common_4 : decode cX6_common 4 = .ok (.iload_n 0, 1) := by decide +kernel
theorem dX6_common_5 : decode cX6_common 5 = .ok (.ineg, 1) := by decide +kernel
theorem dX6_common_6 : decode cX6_common 6 = .ok (.goto 4, 3) := by decide +kernel
theorem dX6_common_9 : decode cX6_common 9 = .ok (.iload_n 0, 1) := by decide +kernel
theorem dX6_common_10 : decode cX6_common 10 = .ok (.istore_n 2, 1) := by decide +kernel
theorem dX6_common_11 : decode cX6_common 11 = .ok (.iload_n 1, 1) := by decide +kernel
theorem dX6_common_12 : decode cX6_common 12 = .ok (.istore_n 3, 1) := by decide +kernel
theorem dX6_common_13 : decode cX6_common 13 = .ok (.iload_n 3, 1) := by decide +kernel
theorem dX6_common_14 : decode cX6_common 14 = .ok (.ifCond .eq 16, 3) := by decide +kernel
theorem dX6_common_17 : decode cX6_common 17 = .ok (.iload_n 2, 1) := by decide +kernel
theorem dX6_common_18 : decode cX6_common 18 = .ok (.iload_n 3, 1) := by decide +kernel
theorem dX6_common_19 : decode cX6_common 19 = .ok (.irem, 1) := by decide +kernel
theorem dX6_common_20 : decode cX6_common 20 = .ok (.istore 4, 2) := by decide +kernel
theorem dX6_common_22 : decode cX6_common 22 = .ok (.iload_n 3, 1) := by decide +kernel
theorem dX6_common_23 : decode cX6_common 23 = .ok (.istore_n 2, 1) := by decide +kernel
theorem dX6_common_24 : decode cX6_common 24 = .ok (.iload 4, 2) := by decide +kernel
theorem dX6_common_26 : decode cX6_common 26 = .ok (.istore_n 3, 1) := by decide +kernel
theorem dX6_common_27 : decode cX6_common 27 = .ok (.goto (-14), 3) := by decide +kernel
theorem dX6_common_30 : decode cX6_common 30 = .ok (.iload_n 2, 1) := by decide +kernel
theorem dX6_common_31 : decode cX6_common 31 = .ok (.ireturn, 1) := by decide +kernel
theorem dX6_rightBy_0 : decode cX6_rightBy 0 = .ok (.iconst 0, 1) := by decide +kernel
theorem dX6_rightBy_1 : decode cX6_rightBy 1 = .ok (.istore_n 2, 1) := by decide +kernel
theorem dX6_rightBy_2 : decode cX6_rightBy 2 = .ok (.iconst 0, 1) := by decide +kernel
theorem dX6_rightBy_3 : decode cX6_rightBy 3 = .ok (.istore_n 3, 1) := by decide +kernel
theorem dX6_rightBy_4 : decode cX6_rightBy 4 = .ok (.iload_n 3, 1) := by decide +kernel
theorem dX6_rightBy_5 : decode cX6_rightBy 5 = .ok (.aload_n 0, 1) := by decide +kernel
theorem dX6_rightBy_6 : decode cX6_rightBy 6 = .ok (.getfield 89, 3) := by decide +kernel
theorem dX6_rightBy_9 : decode cX6_rightBy 9 = .ok (.if_icmp .ge 63, 3) := by decide +kernel
theorem dX6_rightBy_12 : decode cX6_rightBy 12 = .ok (.aload_n 0, 1) := by decide +kernel
theorem dX6_rightBy_13 : decode cX6_rightBy 13 = .ok (.iload_n 3, 1) := by decide +kernel
theorem dX6_rightBy_14 : decode cX6_rightBy 14 = .ok (.invokevirtual 121, 3) := by decide +kernel
theorem dX6_rightBy_17 : decode cX6_rightBy 17 = .ok (.iload_n 1, 1) := by decide +kernel
theorem dX6_rightBy_18 : decode cX6_rightBy 18 = .ok (.iand, 1) := by decide +kernel
theorem dX6_rightBy_19 : decode cX6_rightBy 19 = .ok (.invokestatic 137, 3) := by decide +kernel
theorem dX6_rightBy_22 : decode cX6_rightBy 22 = .ok (.istore 4, 2) := by decide +kernel
theorem dX6_rightBy_24 : decode cX6_rightBy 24 = .ok (.aload_n 0, 1) := by decide +kernel
theorem dX6_rightBy_25 : decode cX6_rightBy 25 = .ok (.getfield 19, 3) := by decide +kernel
theorem dX6_rightBy_28 : decode cX6_rightBy 28 = .ok (.iload_n 3, 1) := by decide +kernel
theorem dX6_rightBy_29 : decode cX6_rightBy 29 = .ok (.iaload, 1) := by decide +kernel
theorem dX6_rightBy_30 : decode cX6_rightBy 30 = .ok (.ifCond .le 8, 3) := by decide +kernel
theorem dX6_rightBy_33 : decode cX6_rightBy 33 = .ok (.iload 4, 2) := by decide +kernel
theorem dX6_rightBy_35 : decode cX6_rightBy 35 = .ok (.goto 10, 3) := by decide +kernel
theorem dX6_rightBy_38 : decode cX6_rightBy 38 = .ok (.iload_n 1, 1) := by decide +kernel
theorem dX6_rightBy_39 : decode cX6_rightBy 39 = .ok (.invokestatic 137, 3) := by decide +kernel
theorem dX6_rightBy_42 : decode cX6_rightBy 42 = .ok (.iload 4, 2) := by decide +kernel
theorem dX6_rightBy_44 : decode cX6_rightBy 44 = .ok (.isub, 1) := by decide +kernel
theorem dX6_rightBy_45 : decode cX6_rightBy 45 = .ok (.istore 5, 2) := by decide +kernel
theorem dX6_rightBy_47 : decode cX6_rightBy 47 = .ok (.iload_n 2, 1) := by decide +kernel
theorem dX6_rightBy_48 : decode cX6_rightBy 48 = .ok (.iconst 2, 1) := by decide +kernel
theorem dX6_rightBy_49 : decode cX6_rightBy 49 = .ok (.iload 5, 2) := by decide +kernel
theorem dX6_rightBy_51 : decode cX6_rightBy 51 = .ok (.imul, 1) := by decide +kernel
theorem dX6_rightBy_52 : decode cX6_rightBy 52 = .ok (.iload_n 1, 1) := by decide +kernel
theorem dX6_rightBy_53 : decode cX6_rightBy 53 = .ok (.invokestatic 137, 3) := by decide +kernel
theorem dX6_rightBy_56 : decode cX6_rightBy 56 = .ok (.if_icmp .le 7, 3) := by decide +kernel
theorem dX6_rightBy_59 : decode cX6_rightBy 59 = .ok (.iconst 1, 1) := by decide +kernel
theorem dX6_rightBy_60 : decode cX6_rightBy 60 = .ok (.goto 4, 3) := by decide +kernel
theorem dX6_rightBy_63 : decode cX6_rightBy 63 = .ok (.iconst 0, 1) := by decide +kernel
theorem dX6_rightBy_64 : decode cX6_rightBy 64 = .ok (.iadd, 1) := by decide +kernel
theorem dX6_rightBy_65 : decode cX6_rightBy 65 = .ok (.istore_n 2, 1) := by decide +kernel
theorem dX6_rightBy_66 : decode cX6_rightBy 66 = .ok (.iinc 3 1, 3) := by decide +kernel
theorem dX6_rightBy_69 : decode cX6_rightBy 69 = .ok (.goto (-65), 3) := by decide +kernel
theorem dX6_rightBy_72 : decode cX6_rightBy 72 = .ok (.iload_n 2, 1) := by decide +kernel
theorem dX6_rightBy_73 : decode cX6_rightBy 73 = .ok (.ireturn, 1) := by decide +kernel
theorem dX6_share_0 : decode cX6_share 0 = .ok (.aload_n 0, 1) := by decide +kernel
theorem dX6_share_1 : decode cX6_share 1 = .ok (.iload_n 1, 1) := by decide +kernel
theorem dX6_share_2 : decode cX6_share 2 = .ok (.invokevirtual 111, 3) := by decide +kernel
theorem dX6_share_5 : decode cX6_share 5 = .ok (.ifCond .ne 5, 3) := by decide +kernel
theorem dX6_share_8 : decode cX6_share 8 = .ok (.iconst (-1), 1) := by decide +kernel
theorem dX6_share_9 : decode cX6_share 9 = .ok (.ireturn, 1) := by decide +kernel
theorem dX6_share_10 : decode cX6_share 10 = .ok (.iconst 0, 1) := by decide +kernel
theorem dX6_share_11 : decode cX6_share 11 = .ok (.istore_n 3, 1) := by decide +kernel
theorem dX6_share_12 : decode cX6_share 12 = .ok (.iconst 0, 1) := by decide +kernel
theorem dX6_share_13 : decode cX6_share 13 = .ok (.istore 4, 2) := by decide +kernel
theorem dX6_share_15 : decode cX6_share 15 = .ok (.iload 4, 2) := by decide +kernel
theorem dX6_share_17 : decode cX6_share 17 = .ok (.iconst 1, 1) := by decide +kernel
theorem dX6_share_18 : decode cX6_share 18 = .ok (.aload_n 0, 1) := by decide +kernel
theorem dX6_share_19 : decode cX6_share 19 = .ok (.getfield 86, 3) := by decide +kernel
theorem dX6_share_22 : decode cX6_share 22 = .ok (.ishl, 1) := by decide +kernel
theorem dX6_share_23 : decode cX6_share 23 = .ok (.if_icmp .ge 67, 3) := by decide +kernel
theorem dX6_share_26 : decode cX6_share 26 = .ok (.iload 4, 2) := by decide +kernel
theorem dX6_share_28 : decode cX6_share 28 = .ok (.iload_n 1, 1) := by decide +kernel
theorem dX6_share_29 : decode cX6_share 29 = .ok (.invokestatic 115, 3) := by decide +kernel
theorem dX6_share_32 : decode cX6_share 32 = .ok (.ifCond .ne 52, 3) := by decide +kernel
theorem dX6_share_35 : decode cX6_share 35 = .ok (.iload 4, 2) := by decide +kernel
theorem dX6_share_37 : decode cX6_share 37 = .ok (.invokestatic 137, 3) := by decide +kernel
theorem dX6_share_40 : decode cX6_share 40 = .ok (.invokestatic 169, 3) := by decide +kernel
theorem dX6_share_43 : decode cX6_share 43 = .ok (.aload_n 0, 1) := by decide +kernel
theorem dX6_share_44 : decode cX6_share 44 = .ok (.getfield 86, 3) := by decide +kernel
theorem dX6_share_47 : decode cX6_share 47 = .ok (.iconst 1, 1) := by decide +kernel
theorem dX6_share_48 : decode cX6_share 48 = .ok (.isub, 1) := by decide +kernel
theorem dX6_share_49 : decode cX6_share 49 = .ok (.iload 4, 2) := by decide +kernel
theorem dX6_share_51 : decode cX6_share 51 = .ok (.invokestatic 137, 3) := by decide +kernel
theorem dX6_share_54 : decode cX6_share 54 = .ok (.isub, 1) := by decide +kernel
theorem dX6_share_55 : decode cX6_share 55 = .ok (.invokestatic 169, 3) := by decide +kernel
theorem dX6_share_58 : decode cX6_share 58 = .ok (.imul, 1) := by decide +kernel
theorem dX6_share_59 : decode cX6_share 59 = .ok (.istore 5, 2) := by decide +kernel
theorem dX6_share_61 : decode cX6_share 61 = .ok (.iload_n 3, 1) := by decide +kernel
theorem dX6_share_62 : decode cX6_share 62 = .ok (.iload 5, 2) := by decide +kernel
theorem dX6_share_64 : decode cX6_share 64 = .ok (.aload_n 0, 1) := by decide +kernel
theorem dX6_share_65 : decode cX6_share 65 = .ok (.iload 4, 2) := by decide +kernel
theorem dX6_share_67 : decode cX6_share 67 = .ok (.iconst 1, 1) := by decide +kernel
theorem dX6_share_68 : decode cX6_share 68 = .ok (.iload_n 1, 1) := by decide +kernel
theorem dX6_share_69 : decode cX6_share 69 = .ok (.ishl, 1) := by decide +kernel
theorem dX6_share_70 : decode cX6_share 70 = .ok (.ior, 1) := by decide +kernel
theorem dX6_share_71 : decode cX6_share 71 = .ok (.invokevirtual 172, 3) := by decide +kernel
theorem dX6_share_74 : decode cX6_share 74 = .ok (.aload_n 0, 1) := by decide +kernel
theorem dX6_share_75 : decode cX6_share 75 = .ok (.iload 4, 2) := by decide +kernel
theorem dX6_share_77 : decode cX6_share 77 = .ok (.invokevirtual 172, 3) := by decide +kernel
theorem dX6_share_80 : decode cX6_share 80 = .ok (.isub, 1) := by decide +kernel
theorem dX6_share_81 : decode cX6_share 81 = .ok (.imul, 1) := by decide +kernel
theorem dX6_share_82 : decode cX6_share 82 = .ok (.iadd, 1) := by decide +kernel
theorem dX6_share_83 : decode cX6_share 83 = .ok (.istore_n 3, 1) := by decide +kernel
theorem dX6_share_84 : decode cX6_share 84 = .ok (.iinc 4 1, 3) := by decide +kernel
theorem dX6_share_87 : decode cX6_share 87 = .ok (.goto (-72), 3) := by decide +kernel
theorem dX6_share_90 : decode cX6_share 90 = .ok (.iload_n 3, 1) := by decide +kernel
theorem dX6_share_91 : decode cX6_share 91 = .ok (.aload_n 0, 1) := by decide +kernel
theorem dX6_share_92 : decode cX6_share 92 = .ok (.getfield 86, 3) := by decide +kernel
theorem dX6_share_95 : decode cX6_share 95 = .ok (.invokestatic 169, 3) := by decide +kernel
theorem dX6_share_98 : decode cX6_share 98 = .ok (.invokestatic 175, 3) := by decide +kernel
theorem dX6_share_101 : decode cX6_share 101 = .ok (.istore 4, 2) := by decide +kernel
theorem dX6_share_103 : decode cX6_share 103 = .ok (.iload_n 2, 1) := by decide +kernel
theorem dX6_share_104 : decode cX6_share 104 = .ok (.ifCond .eq 10, 3) := by decide +kernel
theorem dX6_share_107 : decode cX6_share 107 = .ok (.iload_n 3, 1) := by decide +kernel
theorem dX6_share_108 : decode cX6_share 108 = .ok (.iload 4, 2) := by decide +kernel
theorem dX6_share_110 : decode cX6_share 110 = .ok (.idiv, 1) := by decide +kernel
theorem dX6_share_111 : decode cX6_share 111 = .ok (.goto 13, 3) := by decide +kernel
theorem dX6_share_114 : decode cX6_share 114 = .ok (.aload_n 0, 1) := by decide +kernel
theorem dX6_share_115 : decode cX6_share 115 = .ok (.getfield 86, 3) := by decide +kernel
theorem dX6_share_118 : decode cX6_share 118 = .ok (.invokestatic 169, 3) := by decide +kernel
theorem dX6_share_121 : decode cX6_share 121 = .ok (.iload 4, 2) := by decide +kernel
theorem dX6_share_123 : decode cX6_share 123 = .ok (.idiv, 1) := by decide +kernel
theorem dX6_share_124 : decode cX6_share 124 = .ok (.ireturn, 1) := by decide +kernel
theorem dX6_gain_0 : decode cX6_gain 0 = .ok (.iload 4, 2) := by decide +kernel
theorem dX6_gain_2 : decode cX6_gain 2 = .ok (.ifCond .ne 5, 3) := by decide +kernel
theorem dX6_gain_5 : decode cX6_gain 5 = .ok (.iconst 0, 1) := by decide +kernel
theorem dX6_gain_6 : decode cX6_gain 6 = .ok (.ireturn, 1) := by decide +kernel
theorem dX6_gain_7 : decode cX6_gain 7 = .ok (.aload_n 0, 1) := by decide +kernel
theorem dX6_gain_8 : decode cX6_gain 8 = .ok (.iconst 0, 1) := by decide +kernel
theorem dX6_gain_9 : decode cX6_gain 9 = .ok (.iload_n 1, 1) := by decide +kernel
theorem dX6_gain_10 : decode cX6_gain 10 = .ok (.iload_n 3, 1) := by decide +kernel
theorem dX6_gain_11 : decode cX6_gain 11 = .ok (.invokevirtual 107, 3) := by decide +kernel
theorem dX6_gain_14 : decode cX6_gain 14 = .ok (.istore 6, 2) := by decide +kernel
theorem dX6_gain_16 : decode cX6_gain 16 = .ok (.aload_n 0, 1) := by decide +kernel
theorem dX6_gain_17 : decode cX6_gain 17 = .ok (.iload 6, 2) := by decide +kernel
theorem dX6_gain_19 : decode cX6_gain 19 = .ok (.iload_n 3, 1) := by decide +kernel
theorem dX6_gain_20 : decode cX6_gain 20 = .ok (.invokevirtual 178, 3) := by decide +kernel
theorem dX6_gain_23 : decode cX6_gain 23 = .ok (.istore 7, 2) := by decide +kernel
theorem dX6_gain_25 : decode cX6_gain 25 = .ok (.iload 5, 2) := by decide +kernel
theorem dX6_gain_27 : decode cX6_gain 27 = .ok (.ifCond .ne 14, 3) := by decide +kernel
theorem dX6_gain_30 : decode cX6_gain 30 = .ok (.iload 7, 2) := by decide +kernel
theorem dX6_gain_32 : decode cX6_gain 32 = .ok (.ifCond .eq 7, 3) := by decide +kernel
theorem dX6_gain_35 : decode cX6_gain 35 = .ok (.iconst 2, 1) := by decide +kernel
theorem dX6_gain_36 : decode cX6_gain 36 = .ok (.goto 4, 3) := by decide +kernel
theorem dX6_gain_39 : decode cX6_gain 39 = .ok (.iconst (-1), 1) := by decide +kernel
theorem dX6_gain_40 : decode cX6_gain 40 = .ok (.ireturn, 1) := by decide +kernel
theorem dX6_gain_41 : decode cX6_gain 41 = .ok (.aload_n 0, 1) := by decide +kernel
theorem dX6_gain_42 : decode cX6_gain 42 = .ok (.iconst 0, 1) := by decide +kernel
theorem dX6_gain_43 : decode cX6_gain 43 = .ok (.iload_n 2, 1) := by decide +kernel
theorem dX6_gain_44 : decode cX6_gain 44 = .ok (.iload_n 3, 1) := by decide +kernel
theorem dX6_gain_45 : decode cX6_gain 45 = .ok (.invokevirtual 107, 3) := by decide +kernel
theorem dX6_gain_48 : decode cX6_gain 48 = .ok (.iload 6, 2) := by decide +kernel
theorem dX6_gain_50 : decode cX6_gain 50 = .ok (.if_icmp .ne 7, 3) := by decide +kernel
theorem dX6_gain_53 : decode cX6_gain 53 = .ok (.iconst 1, 1) := by decide +kernel
theorem dX6_gain_54 : decode cX6_gain 54 = .ok (.goto 14, 3) := by decide +kernel
theorem dX6_gain_57 : decode cX6_gain 57 = .ok (.iload 7, 2) := by decide +kernel
theorem dX6_gain_59 : decode cX6_gain 59 = .ok (.ifCond .eq 7, 3) := by decide +kernel
theorem dX6_gain_62 : decode cX6_gain 62 = .ok (.iconst 3, 1) := by decide +kernel
theorem dX6_gain_63 : decode cX6_gain 63 = .ok (.goto 5, 3) := by decide +kernel
theorem dX6_gain_66 : decode cX6_gain 66 = .ok (.bipush (-3), 2) := by decide +kernel
theorem dX6_gain_68 : decode cX6_gain 68 = .ok (.ireturn, 1) := by decide +kernel
theorem dX6_isRest_0 : decode cX6_isRest 0 = .ok (.aload_n 0, 1) := by decide +kernel
theorem dX6_isRest_1 : decode cX6_isRest 1 = .ok (.iload_n 1, 1) := by decide +kernel
theorem dX6_isRest_2 : decode cX6_isRest 2 = .ok (.iload_n 2, 1) := by decide +kernel
theorem dX6_isRest_3 : decode cX6_isRest 3 = .ok (.iload_n 3, 1) := by decide +kernel
theorem dX6_isRest_4 : decode cX6_isRest 4 = .ok (.iconst 1, 1) := by decide +kernel
theorem dX6_isRest_5 : decode cX6_isRest 5 = .ok (.iload 4, 2) := by decide +kernel
theorem dX6_isRest_7 : decode cX6_isRest 7 = .ok (.isub, 1) := by decide +kernel
theorem dX6_isRest_8 : decode cX6_isRest 8 = .ok (.iload 5, 2) := by decide +kernel
theorem dX6_isRest_10 : decode cX6_isRest 10 = .ok (.invokevirtual 182, 3) := by decide +kernel
theorem dX6_isRest_13 : decode cX6_isRest 13 = .ok (.aload_n 0, 1) := by decide +kernel
theorem dX6_isRest_14 : decode cX6_isRest 14 = .ok (.iload_n 1, 1) := by decide +kernel
theorem dX6_isRest_15 : decode cX6_isRest 15 = .ok (.iload_n 2, 1) := by decide +kernel
theorem dX6_isRest_16 : decode cX6_isRest 16 = .ok (.iload_n 3, 1) := by decide +kernel
theorem dX6_isRest_17 : decode cX6_isRest 17 = .ok (.iload 4, 2) := by decide +kernel
theorem dX6_isRest_19 : decode cX6_isRest 19 = .ok (.iload 5, 2) := by decide +kernel
theorem dX6_isRest_21 : decode cX6_isRest 21 = .ok (.invokevirtual 182, 3) := by decide +kernel
theorem dX6_isRest_24 : decode cX6_isRest 24 = .ok (.if_icmp .gt 34, 3) := by decide +kernel
theorem dX6_isRest_27 : decode cX6_isRest 27 = .ok (.aload_n 0, 1) := by decide +kernel
theorem dX6_isRest_28 : decode cX6_isRest 28 = .ok (.iload_n 2, 1) := by decide +kernel
theorem dX6_isRest_29 : decode cX6_isRest 29 = .ok (.iload_n 1, 1) := by decide +kernel
theorem dX6_isRest_30 : decode cX6_isRest 30 = .ok (.iload_n 3, 1) := by decide +kernel
theorem dX6_isRest_31 : decode cX6_isRest 31 = .ok (.iconst 1, 1) := by decide +kernel
theorem dX6_isRest_32 : decode cX6_isRest 32 = .ok (.iload 5, 2) := by decide +kernel
theorem dX6_isRest_34 : decode cX6_isRest 34 = .ok (.isub, 1) := by decide +kernel
theorem dX6_isRest_35 : decode cX6_isRest 35 = .ok (.iload 4, 2) := by decide +kernel
theorem dX6_isRest_37 : decode cX6_isRest 37 = .ok (.invokevirtual 182, 3) := by decide +kernel
theorem dX6_isRest_40 : decode cX6_isRest 40 = .ok (.aload_n 0, 1) := by decide +kernel
theorem dX6_isRest_41 : decode cX6_isRest 41 = .ok (.iload_n 2, 1) := by decide +kernel
theorem dX6_isRest_42 : decode cX6_isRest 42 = .ok (.iload_n 1, 1) := by decide +kernel
theorem dX6_isRest_43 : decode cX6_isRest 43 = .ok (.iload_n 3, 1) := by decide +kernel
theorem dX6_isRest_44 : decode cX6_isRest 44 = .ok (.iload 5, 2) := by decide +kernel
theorem dX6_isRest_46 : decode cX6_isRest 46 = .ok (.iload 4, 2) := by decide +kernel
theorem dX6_isRest_48 : decode cX6_isRest 48 = .ok (.invokevirtual 182, 3) := by decide +kernel
theorem dX6_isRest_51 : decode cX6_isRest 51 = .ok (.if_icmp .gt 7, 3) := by decide +kernel
theorem dX6_isRest_54 : decode cX6_isRest 54 = .ok (.iconst 1, 1) := by decide +kernel
theorem dX6_isRest_55 : decode cX6_isRest 55 = .ok (.goto 4, 3) := by decide +kernel
theorem dX6_isRest_58 : decode cX6_isRest 58 = .ok (.iconst 0, 1) := by decide +kernel
theorem dX6_isRest_59 : decode cX6_isRest 59 = .ok (.ireturn, 1) := by decide +kernel
theorem dX6_rests_0 : decode cX6_rests 0 = .ok (.aload_n 0, 1) := by decide +kernel
theorem dX6_rests_1 : decode cX6_rests 1 = .ok (.iload_n 1, 1) := by decide +kernel
theorem dX6_rests_2 : decode cX6_rests 2 = .ok (.invokevirtual 111, 3) := by decide +kernel
theorem dX6_rests_5 : decode cX6_rests 5 = .ok (.ifCond .eq 19, 3) := by decide +kernel
theorem dX6_rests_8 : decode cX6_rests 8 = .ok (.aload_n 0, 1) := by decide +kernel
theorem dX6_rests_9 : decode cX6_rests 9 = .ok (.iload_n 2, 1) := by decide +kernel
theorem dX6_rests_10 : decode cX6_rests 10 = .ok (.invokevirtual 111, 3) := by decide +kernel
theorem dX6_rests_13 : decode cX6_rests 13 = .ok (.ifCond .eq 11, 3) := by decide +kernel
theorem dX6_rests_16 : decode cX6_rests 16 = .ok (.aload_n 0, 1) := by decide +kernel
theorem dX6_rests_17 : decode cX6_rests 17 = .ok (.iload_n 3, 1) := by decide +kernel
theorem dX6_rests_18 : decode cX6_rests 18 = .ok (.invokevirtual 118, 3) := by decide +kernel
theorem dX6_rests_21 : decode cX6_rests 21 = .ok (.ifCond .ne 5, 3) := by decide +kernel
theorem dX6_rests_24 : decode cX6_rests 24 = .ok (.iconst (-1), 1) := by decide +kernel
theorem dX6_rests_25 : decode cX6_rests 25 = .ok (.ireturn, 1) := by decide +kernel
theorem dX6_rests_26 : decode cX6_rests 26 = .ok (.iload_n 1, 1) := by decide +kernel
theorem dX6_rests_27 : decode cX6_rests 27 = .ok (.iload_n 2, 1) := by decide +kernel
theorem dX6_rests_28 : decode cX6_rests 28 = .ok (.if_icmp .eq 14, 3) := by decide +kernel
theorem dX6_rests_31 : decode cX6_rests 31 = .ok (.iload 4, 2) := by decide +kernel
theorem dX6_rests_33 : decode cX6_rests 33 = .ok (.i2l, 1) := by decide +kernel
theorem dX6_rests_34 : decode cX6_rests 34 = .ok (.lconst 0, 1) := by decide +kernel
theorem dX6_rests_35 : decode cX6_rests 35 = .ok (.lconst 1, 1) := by decide +kernel
theorem dX6_rests_36 : decode cX6_rests 36 = .ok (.invokestatic 58, 3) := by decide +kernel
theorem dX6_rests_39 : decode cX6_rests 39 = .ok (.ifCond .ne 6, 3) := by decide +kernel
theorem dX6_rests_42 : decode cX6_rests 42 = .ok (.bipush (-2), 2) := by decide +kernel
theorem dX6_rests_44 : decode cX6_rests 44 = .ok (.ireturn, 1) := by decide +kernel
theorem dX6_rests_45 : decode cX6_rests 45 = .ok (.iconst 0, 1) := by decide +kernel
theorem dX6_rests_46 : decode cX6_rests 46 = .ok (.istore 5, 2) := by decide +kernel
theorem dX6_rests_48 : decode cX6_rests 48 = .ok (.bipush (-9), 2) := by decide +kernel
theorem dX6_rests_50 : decode cX6_rests 50 = .ok (.istore 6, 2) := by decide +kernel
theorem dX6_rests_52 : decode cX6_rests 52 = .ok (.iconst 0, 1) := by decide +kernel
theorem dX6_rests_53 : decode cX6_rests 53 = .ok (.istore 7, 2) := by decide +kernel
theorem dX6_rests_55 : decode cX6_rests 55 = .ok (.iload 7, 2) := by decide +kernel
theorem dX6_rests_57 : decode cX6_rests 57 = .ok (.iconst 4, 1) := by decide +kernel
theorem dX6_rests_58 : decode cX6_rests 58 = .ok (.if_icmp .ge 54, 3) := by decide +kernel
theorem dX6_rests_61 : decode cX6_rests 61 = .ok (.aload_n 0, 1) := by decide +kernel
theorem dX6_rests_62 : decode cX6_rests 62 = .ok (.iload_n 1, 1) := by decide +kernel
theorem dX6_rests_63 : decode cX6_rests 63 = .ok (.iload_n 2, 1) := by decide +kernel
theorem dX6_rests_64 : decode cX6_rests 64 = .ok (.iload_n 3, 1) := by decide +kernel
theorem dX6_rests_65 : decode cX6_rests 65 = .ok (.iload 7, 2) := by decide +kernel
theorem dX6_rests_67 : decode cX6_rests 67 = .ok (.iconst 2, 1) := by decide +kernel
theorem dX6_rests_68 : decode cX6_rests 68 = .ok (.idiv, 1) := by decide +kernel
theorem dX6_rests_69 : decode cX6_rests 69 = .ok (.iload 7, 2) := by decide +kernel
theorem dX6_rests_71 : decode cX6_rests 71 = .ok (.iconst 2, 1) := by decide +kernel
theorem dX6_rests_72 : decode cX6_rests 72 = .ok (.irem, 1) := by decide +kernel
theorem dX6_rests_73 : decode cX6_rests 73 = .ok (.invokevirtual 186, 3) := by decide +kernel
theorem dX6_rests_76 : decode cX6_rests 76 = .ok (.ifCond .eq 30, 3) := by decide +kernel
theorem dX6_rests_79 : decode cX6_rests 79 = .ok (.iload 5, 2) := by decide +kernel
theorem dX6_rests_81 : decode cX6_rests 81 = .ok (.ifCond .ne 18, 3) := by decide +kernel
theorem dX6_rests_84 : decode cX6_rests 84 = .ok (.bipush 10, 2) := by decide +kernel
theorem dX6_rests_86 : decode cX6_rests 86 = .ok (.iload 7, 2) := by decide +kernel
theorem dX6_rests_88 : decode cX6_rests 88 = .ok (.iconst 2, 1) := by decide +kernel
theorem dX6_rests_89 : decode cX6_rests 89 = .ok (.idiv, 1) := by decide +kernel
theorem dX6_rests_90 : decode cX6_rests 90 = .ok (.imul, 1) := by decide +kernel
theorem dX6_rests_91 : decode cX6_rests 91 = .ok (.iload 7, 2) := by decide +kernel
theorem dX6_rests_93 : decode cX6_rests 93 = .ok (.iconst 2, 1) := by decide +kernel
theorem dX6_rests_94 : decode cX6_rests 94 = .ok (.irem, 1) := by decide +kernel
theorem dX6_rests_95 : decode cX6_rests 95 = .ok (.iadd, 1) := by decide +kernel
theorem dX6_rests_96 : decode cX6_rests 96 = .ok (.goto 5, 3) := by decide +kernel
theorem dX6_rests_99 : decode cX6_rests 99 = .ok (.iload 6, 2) := by decide +kernel
theorem dX6_rests_101 : decode cX6_rests 101 = .ok (.istore 6, 2) := by decide +kernel
theorem dX6_rests_103 : decode cX6_rests 103 = .ok (.iinc 5 1, 3) := by decide +kernel
theorem dX6_rests_106 : decode cX6_rests 106 = .ok (.iinc 7 1, 3) := by decide +kernel
theorem dX6_rests_109 : decode cX6_rests 109 = .ok (.goto (-54), 3) := by decide +kernel
theorem dX6_rests_112 : decode cX6_rests 112 = .ok (.iload 4, 2) := by decide +kernel
theorem dX6_rests_114 : decode cX6_rests 114 = .ok (.ifCond .ne 8, 3) := by decide +kernel
theorem dX6_rests_117 : decode cX6_rests 117 = .ok (.iload 5, 2) := by decide +kernel
theorem dX6_rests_119 : decode cX6_rests 119 = .ok (.goto 5, 3) := by decide +kernel
theorem dX6_rests_122 : decode cX6_rests 122 = .ok (.iload 6, 2) := by decide +kernel
theorem dX6_rests_124 : decode cX6_rests 124 = .ok (.ireturn, 1) := by decide +kernel
theorem dX6_flicker_0 : decode cX6_flicker 0 = .ok (.aload_n 0, 1) := by decide +kernel
theorem dX6_flicker_1 : decode cX6_flicker 1 = .ok (.iload_n 1, 1) := by decide +kernel
theorem dX6_flicker_2 : decode cX6_flicker 2 = .ok (.invokevirtual 118, 3) := by decide +kernel
theorem dX6_flicker_5 : decode cX6_flicker 5 = .ok (.ifCond .ne 5, 3) := by decide +kernel
theorem dX6_flicker_8 : decode cX6_flicker 8 = .ok (.iconst (-1), 1) := by decide +kernel
theorem dX6_flicker_9 : decode cX6_flicker 9 = .ok (.ireturn, 1) := by decide +kernel
theorem dX6_flicker_10 : decode cX6_flicker 10 = .ok (.iload_n 2, 1) := by decide +kernel
theorem dX6_flicker_11 : decode cX6_flicker 11 = .ok (.i2l, 1) := by decide +kernel
theorem dX6_flicker_12 : decode cX6_flicker 12 = .ok (.lconst 0, 1) := by decide +kernel
theorem dX6_flicker_13 : decode cX6_flicker 13 = .ok (.ldc2_w 189, 3) := by decide +kernel
theorem dX6_flicker_16 : decode cX6_flicker 16 = .ok (.invokestatic 58, 3) := by decide +kernel
theorem dX6_flicker_19 : decode cX6_flicker 19 = .ok (.ifCond .eq 15, 3) := by decide +kernel
theorem dX6_flicker_22 : decode cX6_flicker 22 = .ok (.iload_n 3, 1) := by decide +kernel
theorem dX6_flicker_23 : decode cX6_flicker 23 = .ok (.i2l, 1) := by decide +kernel
theorem dX6_flicker_24 : decode cX6_flicker 24 = .ok (.lconst 0, 1) := by decide +kernel
theorem dX6_flicker_25 : decode cX6_flicker 25 = .ok (.ldc2_w 191, 3) := by decide +kernel
theorem dX6_flicker_28 : decode cX6_flicker 28 = .ok (.invokestatic 58, 3) := by decide +kernel
theorem dX6_flicker_31 : decode cX6_flicker 31 = .ok (.ifCond .ne 6, 3) := by decide +kernel
theorem dX6_flicker_34 : decode cX6_flicker 34 = .ok (.bipush (-2), 2) := by decide +kernel
theorem dX6_flicker_36 : decode cX6_flicker 36 = .ok (.ireturn, 1) := by decide +kernel
theorem dX6_flicker_37 : decode cX6_flicker 37 = .ok (.iconst 0, 1) := by decide +kernel
theorem dX6_flicker_38 : decode cX6_flicker 38 = .ok (.istore 5, 2) := by decide +kernel
theorem dX6_flicker_40 : decode cX6_flicker 40 = .ok (.iconst 0, 1) := by decide +kernel
theorem dX6_flicker_41 : decode cX6_flicker 41 = .ok (.istore 6, 2) := by decide +kernel
theorem dX6_flicker_43 : decode cX6_flicker 43 = .ok (.iconst 0, 1) := by decide +kernel
theorem dX6_flicker_44 : decode cX6_flicker 44 = .ok (.istore 7, 2) := by decide +kernel
theorem dX6_flicker_46 : decode cX6_flicker 46 = .ok (.iload 7, 2) := by decide +kernel
theorem dX6_flicker_48 : decode cX6_flicker 48 = .ok (.iconst 1, 1) := by decide +kernel
theorem dX6_flicker_49 : decode cX6_flicker 49 = .ok (.aload_n 0, 1) := by decide +kernel
theorem dX6_flicker_50 : decode cX6_flicker 50 = .ok (.getfield 86, 3) := by decide +kernel
theorem dX6_flicker_53 : decode cX6_flicker 53 = .ok (.ishl, 1) := by decide +kernel
theorem dX6_flicker_54 : decode cX6_flicker 54 = .ok (.if_icmp .ge 118, 3) := by decide +kernel
theorem dX6_flicker_57 : decode cX6_flicker 57 = .ok (.iload_n 3, 1) := by decide +kernel
theorem dX6_flicker_58 : decode cX6_flicker 58 = .ok (.iload 7, 2) := by decide +kernel
theorem dX6_flicker_60 : decode cX6_flicker 60 = .ok (.invokestatic 137, 3) := by decide +kernel
theorem dX6_flicker_63 : decode cX6_flicker 63 = .ok (.invokestatic 145, 3) := by decide +kernel
theorem dX6_flicker_66 : decode cX6_flicker 66 = .ok (.bipush 10, 2) := by decide +kernel
theorem dX6_flicker_68 : decode cX6_flicker 68 = .ok (.iload_n 3, 1) := by decide +kernel
theorem dX6_flicker_69 : decode cX6_flicker 69 = .ok (.isub, 1) := by decide +kernel
theorem dX6_flicker_70 : decode cX6_flicker 70 = .ok (.aload_n 0, 1) := by decide +kernel
theorem dX6_flicker_71 : decode cX6_flicker 71 = .ok (.getfield 86, 3) := by decide +kernel
theorem dX6_flicker_74 : decode cX6_flicker 74 = .ok (.iload 7, 2) := by decide +kernel
theorem dX6_flicker_76 : decode cX6_flicker 76 = .ok (.invokestatic 137, 3) := by decide +kernel
theorem dX6_flicker_79 : decode cX6_flicker 79 = .ok (.isub, 1) := by decide +kernel
theorem dX6_flicker_80 : decode cX6_flicker 80 = .ok (.invokestatic 145, 3) := by decide +kernel
theorem dX6_flicker_83 : decode cX6_flicker 83 = .ok (.imul, 1) := by decide +kernel
theorem dX6_flicker_84 : decode cX6_flicker 84 = .ok (.istore 8, 2) := by decide +kernel
theorem dX6_flicker_86 : decode cX6_flicker 86 = .ok (.iconst 0, 1) := by decide +kernel
theorem dX6_flicker_87 : decode cX6_flicker 87 = .ok (.istore 9, 2) := by decide +kernel
theorem dX6_flicker_89 : decode cX6_flicker 89 = .ok (.iconst 0, 1) := by decide +kernel
theorem dX6_flicker_90 : decode cX6_flicker 90 = .ok (.istore 10, 2) := by decide +kernel
theorem dX6_flicker_92 : decode cX6_flicker 92 = .ok (.iload 10, 2) := by decide +kernel
theorem dX6_flicker_94 : decode cX6_flicker 94 = .ok (.aload_n 0, 1) := by decide +kernel
theorem dX6_flicker_95 : decode cX6_flicker 95 = .ok (.getfield 86, 3) := by decide +kernel
theorem dX6_flicker_98 : decode cX6_flicker 98 = .ok (.if_icmp .ge 44, 3) := by decide +kernel
theorem dX6_flicker_101 : decode cX6_flicker 101 = .ok (.iload 9, 2) := by decide +kernel
theorem dX6_flicker_103 : decode cX6_flicker 103 = .ok (.aload_n 0, 1) := by decide +kernel
theorem dX6_flicker_104 : decode cX6_flicker 104 = .ok (.iload 10, 2) := by decide +kernel
theorem dX6_flicker_106 : decode cX6_flicker 106 = .ok (.aload_n 0, 1) := by decide +kernel
theorem dX6_flicker_107 : decode cX6_flicker 107 = .ok (.iconst 0, 1) := by decide +kernel
theorem dX6_flicker_108 : decode cX6_flicker 108 = .ok (.iload 10, 2) := by decide +kernel
theorem dX6_flicker_110 : decode cX6_flicker 110 = .ok (.iload_n 1, 1) := by decide +kernel
theorem dX6_flicker_111 : decode cX6_flicker 111 = .ok (.invokevirtual 99, 3) := by decide +kernel
theorem dX6_flicker_114 : decode cX6_flicker 114 = .ok (.iload 7, 2) := by decide +kernel
theorem dX6_flicker_116 : decode cX6_flicker 116 = .ok (.iload 10, 2) := by decide +kernel
theorem dX6_flicker_118 : decode cX6_flicker 118 = .ok (.ishr, 1) := by decide +kernel
theorem dX6_flicker_119 : decode cX6_flicker 119 = .ok (.iconst 1, 1) := by decide +kernel
theorem dX6_flicker_120 : decode cX6_flicker 120 = .ok (.iand, 1) := by decide +kernel
theorem dX6_flicker_121 : decode cX6_flicker 121 = .ok (.iadd, 1) := by decide +kernel
theorem dX6_flicker_122 : decode cX6_flicker 122 = .ok (.invokevirtual 103, 3) := by decide +kernel
theorem dX6_flicker_125 : decode cX6_flicker 125 = .ok (.ifCond .eq 7, 3) := by decide +kernel
theorem dX6_flicker_128 : decode cX6_flicker 128 = .ok (.iconst 1, 1) := by decide +kernel
theorem dX6_flicker_129 : decode cX6_flicker 129 = .ok (.goto 4, 3) := by decide +kernel
theorem dX6_flicker_132 : decode cX6_flicker 132 = .ok (.iconst 0, 1) := by decide +kernel
theorem dX6_flicker_133 : decode cX6_flicker 133 = .ok (.iadd, 1) := by decide +kernel
theorem dX6_flicker_134 : decode cX6_flicker 134 = .ok (.istore 9, 2) := by decide +kernel
theorem dX6_flicker_136 : decode cX6_flicker 136 = .ok (.iinc 10 1, 3) := by decide +kernel
theorem dX6_flicker_139 : decode cX6_flicker 139 = .ok (.goto (-47), 3) := by decide +kernel
theorem dX6_flicker_142 : decode cX6_flicker 142 = .ok (.iload 6, 2) := by decide +kernel
theorem dX6_flicker_144 : decode cX6_flicker 144 = .ok (.iload 8, 2) := by decide +kernel
theorem dX6_flicker_146 : decode cX6_flicker 146 = .ok (.iadd, 1) := by decide +kernel
theorem dX6_flicker_147 : decode cX6_flicker 147 = .ok (.istore 6, 2) := by decide +kernel
theorem dX6_flicker_149 : decode cX6_flicker 149 = .ok (.iload 5, 2) := by decide +kernel
theorem dX6_flicker_151 : decode cX6_flicker 151 = .ok (.iload 9, 2) := by decide +kernel
theorem dX6_flicker_153 : decode cX6_flicker 153 = .ok (.iload_n 2, 1) := by decide +kernel
theorem dX6_flicker_154 : decode cX6_flicker 154 = .ok (.if_icmp .lt 8, 3) := by decide +kernel
theorem dX6_flicker_157 : decode cX6_flicker 157 = .ok (.iload 8, 2) := by decide +kernel
theorem dX6_flicker_159 : decode cX6_flicker 159 = .ok (.goto 4, 3) := by decide +kernel
theorem dX6_flicker_162 : decode cX6_flicker 162 = .ok (.iconst 0, 1) := by decide +kernel
theorem dX6_flicker_163 : decode cX6_flicker 163 = .ok (.iadd, 1) := by decide +kernel
theorem dX6_flicker_164 : decode cX6_flicker 164 = .ok (.istore 5, 2) := by decide +kernel
theorem dX6_flicker_166 : decode cX6_flicker 166 = .ok (.iinc 7 1, 3) := by decide +kernel
theorem dX6_flicker_169 : decode cX6_flicker 169 = .ok (.goto (-123), 3) := by decide +kernel
theorem dX6_flicker_172 : decode cX6_flicker 172 = .ok (.iload 5, 2) := by decide +kernel
theorem dX6_flicker_174 : decode cX6_flicker 174 = .ok (.iload 6, 2) := by decide +kernel
theorem dX6_flicker_176 : decode cX6_flicker 176 = .ok (.invokestatic 175, 3) := by decide +kernel
theorem dX6_flicker_179 : decode cX6_flicker 179 = .ok (.istore 7, 2) := by decide +kernel
theorem dX6_flicker_181 : decode cX6_flicker 181 = .ok (.iload 4, 2) := by decide +kernel
theorem dX6_flicker_183 : decode cX6_flicker 183 = .ok (.ifCond .eq 11, 3) := by decide +kernel
theorem dX6_flicker_186 : decode cX6_flicker 186 = .ok (.iload 5, 2) := by decide +kernel
theorem dX6_flicker_188 : decode cX6_flicker 188 = .ok (.iload 7, 2) := by decide +kernel
theorem dX6_flicker_190 : decode cX6_flicker 190 = .ok (.idiv, 1) := by decide +kernel
theorem dX6_flicker_191 : decode cX6_flicker 191 = .ok (.goto 8, 3) := by decide +kernel
theorem dX6_flicker_194 : decode cX6_flicker 194 = .ok (.iload 6, 2) := by decide +kernel
theorem dX6_flicker_196 : decode cX6_flicker 196 = .ok (.iload 7, 2) := by decide +kernel
theorem dX6_flicker_198 : decode cX6_flicker 198 = .ok (.idiv, 1) := by decide +kernel
theorem dX6_flicker_199 : decode cX6_flicker 199 = .ok (.ireturn, 1) := by decide +kernel
theorem dX6_rightOn_0 : decode cX6_rightOn 0 = .ok (.iconst 0, 1) := by decide +kernel
theorem dX6_rightOn_1 : decode cX6_rightOn 1 = .ok (.istore_n 2, 1) := by decide +kernel
theorem dX6_rightOn_2 : decode cX6_rightOn 2 = .ok (.iconst 0, 1) := by decide +kernel
theorem dX6_rightOn_3 : decode cX6_rightOn 3 = .ok (.istore_n 3, 1) := by decide +kernel
theorem dX6_rightOn_4 : decode cX6_rightOn 4 = .ok (.iload_n 3, 1) := by decide +kernel
theorem dX6_rightOn_5 : decode cX6_rightOn 5 = .ok (.bipush 20, 2) := by decide +kernel
theorem dX6_rightOn_7 : decode cX6_rightOn 7 = .ok (.if_icmp .ge 63, 3) := by decide +kernel
theorem dX6_rightOn_10 : decode cX6_rightOn 10 = .ok (.aload_n 0, 1) := by decide +kernel
theorem dX6_rightOn_11 : decode cX6_rightOn 11 = .ok (.getfield 19, 3) := by decide +kernel
theorem dX6_rightOn_14 : decode cX6_rightOn 14 = .ok (.iload_n 3, 1) := by decide +kernel
theorem dX6_rightOn_15 : decode cX6_rightOn 15 = .ok (.iconst 4, 1) := by decide +kernel
theorem dX6_rightOn_16 : decode cX6_rightOn 16 = .ok (.irem, 1) := by decide +kernel
theorem dX6_rightOn_17 : decode cX6_rightOn 17 = .ok (.iaload, 1) := by decide +kernel
theorem dX6_rightOn_18 : decode cX6_rightOn 18 = .ok (.ifCond .le 7, 3) := by decide +kernel
theorem dX6_rightOn_21 : decode cX6_rightOn 21 = .ok (.iconst 1, 1) := by decide +kernel
theorem dX6_rightOn_22 : decode cX6_rightOn 22 = .ok (.goto 4, 3) := by decide +kernel
theorem dX6_rightOn_25 : decode cX6_rightOn 25 = .ok (.iconst 0, 1) := by decide +kernel
theorem dX6_rightOn_26 : decode cX6_rightOn 26 = .ok (.istore 4, 2) := by decide +kernel
theorem dX6_rightOn_28 : decode cX6_rightOn 28 = .ok (.iload_n 2, 1) := by decide +kernel
theorem dX6_rightOn_29 : decode cX6_rightOn 29 = .ok (.aload_n 0, 1) := by decide +kernel
theorem dX6_rightOn_30 : decode cX6_rightOn 30 = .ok (.getfield 22, 3) := by decide +kernel
theorem dX6_rightOn_33 : decode cX6_rightOn 33 = .ok (.bipush 9, 2) := by decide +kernel
theorem dX6_rightOn_35 : decode cX6_rightOn 35 = .ok (.iload_n 1, 1) := by decide +kernel
theorem dX6_rightOn_36 : decode cX6_rightOn 36 = .ok (.imul, 1) := by decide +kernel
theorem dX6_rightOn_37 : decode cX6_rightOn 37 = .ok (.iload 4, 2) := by decide +kernel
theorem dX6_rightOn_39 : decode cX6_rightOn 39 = .ok (.ifCond .eq 7, 3) := by decide +kernel
theorem dX6_rightOn_42 : decode cX6_rightOn 42 = .ok (.iconst 5, 1) := by decide +kernel
theorem dX6_rightOn_43 : decode cX6_rightOn 43 = .ok (.goto 5, 3) := by decide +kernel
theorem dX6_rightOn_46 : decode cX6_rightOn 46 = .ok (.bipush 6, 2) := by decide +kernel
theorem dX6_rightOn_48 : decode cX6_rightOn 48 = .ok (.iadd, 1) := by decide +kernel
theorem dX6_rightOn_49 : decode cX6_rightOn 49 = .ok (.iaload, 1) := by decide +kernel
theorem dX6_rightOn_50 : decode cX6_rightOn 50 = .ok (.iload_n 3, 1) := by decide +kernel
theorem dX6_rightOn_51 : decode cX6_rightOn 51 = .ok (.invokestatic 115, 3) := by decide +kernel
theorem dX6_rightOn_54 : decode cX6_rightOn 54 = .ok (.ifCond .eq 7, 3) := by decide +kernel
theorem dX6_rightOn_57 : decode cX6_rightOn 57 = .ok (.iconst 1, 1) := by decide +kernel
theorem dX6_rightOn_58 : decode cX6_rightOn 58 = .ok (.goto 4, 3) := by decide +kernel
theorem dX6_rightOn_61 : decode cX6_rightOn 61 = .ok (.iconst 0, 1) := by decide +kernel
theorem dX6_rightOn_62 : decode cX6_rightOn 62 = .ok (.iadd, 1) := by decide +kernel
theorem dX6_rightOn_63 : decode cX6_rightOn 63 = .ok (.istore_n 2, 1) := by decide +kernel
theorem dX6_rightOn_64 : decode cX6_rightOn 64 = .ok (.iinc 3 1, 3) := by decide +kernel
theorem dX6_rightOn_67 : decode cX6_rightOn 67 = .ok (.goto (-63), 3) := by decide +kernel
theorem dX6_rightOn_70 : decode cX6_rightOn 70 = .ok (.iload_n 2, 1) := by decide +kernel
theorem dX6_rightOn_71 : decode cX6_rightOn 71 = .ok (.ireturn, 1) := by decide +kernel
theorem dX6_seed_0 : decode cX6_seed 0 = .ok (.aload_n 0, 1) := by decide +kernel
theorem dX6_seed_1 : decode cX6_seed 1 = .ok (.getfield 193, 3) := by decide +kernel
theorem dX6_seed_4 : decode cX6_seed 4 = .ok (.lstore_n 3, 1) := by decide +kernel
theorem dX6_seed_5 : decode cX6_seed 5 = .ok (.aload_n 0, 1) := by decide +kernel
theorem dX6_seed_6 : decode cX6_seed 6 = .ok (.lload_n 1, 1) := by decide +kernel
theorem dX6_seed_7 : decode cX6_seed 7 = .ok (.putfield 193, 3) := by decide +kernel
theorem dX6_seed_10 : decode cX6_seed 10 = .ok (.lload_n 3, 1) := by decide +kernel
theorem dX6_seed_11 : decode cX6_seed 11 = .ok (.lreturn, 1) := by decide +kernel
theorem dX6_winters_0 : decode cX6_winters 0 = .ok (.iload_n 1, 1) := by decide +kernel
theorem dX6_winters_1 : decode cX6_winters 1 = .ok (.i2l, 1) := by decide +kernel
theorem dX6_winters_2 : decode cX6_winters 2 = .ok (.lconst 1, 1) := by decide +kernel
theorem dX6_winters_3 : decode cX6_winters 3 = .ok (.ldc2_w 197, 3) := by decide +kernel
theorem dX6_winters_6 : decode cX6_winters 6 = .ok (.invokestatic 58, 3) := by decide +kernel
theorem dX6_winters_9 : decode cX6_winters 9 = .ok (.ifCond .ne 6, 3) := by decide +kernel
theorem dX6_winters_12 : decode cX6_winters 12 = .ok (.bipush (-2), 2) := by decide +kernel
theorem dX6_winters_14 : decode cX6_winters 14 = .ok (.ireturn, 1) := by decide +kernel
theorem dX6_winters_15 : decode cX6_winters 15 = .ok (.aload_n 0, 1) := by decide +kernel
theorem dX6_winters_16 : decode cX6_winters 16 = .ok (.invokevirtual 148, 3) := by decide +kernel
theorem dX6_winters_19 : decode cX6_winters 19 = .ok (.iconst 0, 1) := by decide +kernel
theorem dX6_winters_20 : decode cX6_winters 20 = .ok (.istore_n 2, 1) := by decide +kernel
theorem dX6_winters_21 : decode cX6_winters 21 = .ok (.iload_n 2, 1) := by decide +kernel
theorem dX6_winters_22 : decode cX6_winters 22 = .ok (.iload_n 1, 1) := by decide +kernel
theorem dX6_winters_23 : decode cX6_winters 23 = .ok (.if_icmp .ge 113, 3) := by decide +kernel
theorem dX6_winters_26 : decode cX6_winters 26 = .ok (.aload_n 0, 1) := by decide +kernel
theorem dX6_winters_27 : decode cX6_winters 27 = .ok (.aload_n 0, 1) := by decide +kernel
theorem dX6_winters_28 : decode cX6_winters 28 = .ok (.getfield 193, 3) := by decide +kernel
theorem dX6_winters_31 : decode cX6_winters 31 = .ok (.ldc2_w 199, 3) := by decide +kernel
theorem dX6_winters_34 : decode cX6_winters 34 = .ok (.lmul, 1) := by decide +kernel
theorem dX6_winters_35 : decode cX6_winters 35 = .ok (.ldc2_w 201, 3) := by decide +kernel
theorem dX6_winters_38 : decode cX6_winters 38 = .ok (.ladd, 1) := by decide +kernel
theorem dX6_winters_39 : decode cX6_winters 39 = .ok (.putfield 193, 3) := by decide +kernel
theorem dX6_winters_42 : decode cX6_winters 42 = .ok (.aload_n 0, 1) := by decide +kernel
theorem dX6_winters_43 : decode cX6_winters 43 = .ok (.getfield 193, 3) := by decide +kernel
theorem dX6_winters_46 : decode cX6_winters 46 = .ok (.bipush 33, 2) := by decide +kernel
theorem dX6_winters_48 : decode cX6_winters 48 = .ok (.lushr, 1) := by decide +kernel
theorem dX6_winters_49 : decode cX6_winters 49 = .ok (.ldc2_w 203, 3) := by decide +kernel
theorem dX6_winters_52 : decode cX6_winters 52 = .ok (.lrem, 1) := by decide +kernel
theorem dX6_winters_53 : decode cX6_winters 53 = .ok (.l2i, 1) := by decide +kernel
theorem dX6_winters_54 : decode cX6_winters 54 = .ok (.istore_n 3, 1) := by decide +kernel
theorem dX6_winters_55 : decode cX6_winters 55 = .ok (.iload_n 3, 1) := by decide +kernel
theorem dX6_winters_56 : decode cX6_winters 56 = .ok (.bipush 19, 2) := by decide +kernel
theorem dX6_winters_58 : decode cX6_winters 58 = .ok (.if_icmp .le 40, 3) := by decide +kernel
theorem dX6_winters_61 : decode cX6_winters 61 = .ok (.bipush 9, 2) := by decide +kernel
theorem dX6_winters_63 : decode cX6_winters 63 = .ok (.iload_n 3, 1) := by decide +kernel
theorem dX6_winters_64 : decode cX6_winters 64 = .ok (.bipush 20, 2) := by decide +kernel
theorem dX6_winters_66 : decode cX6_winters 66 = .ok (.if_icmp .ne 8, 3) := by decide +kernel
theorem dX6_winters_69 : decode cX6_winters 69 = .ok (.bipush 7, 2) := by decide +kernel
theorem dX6_winters_71 : decode cX6_winters 71 = .ok (.goto 5, 3) := by decide +kernel
theorem dX6_winters_74 : decode cX6_winters 74 = .ok (.bipush 8, 2) := by decide +kernel
theorem dX6_winters_76 : decode cX6_winters 76 = .ok (.iadd, 1) := by decide +kernel
theorem dX6_winters_77 : decode cX6_winters 77 = .ok (.istore 4, 2) := by decide +kernel
theorem dX6_winters_79 : decode cX6_winters 79 = .ok (.aload_n 0, 1) := by decide +kernel
theorem dX6_winters_80 : decode cX6_winters 80 = .ok (.getfield 22, 3) := by decide +kernel
theorem dX6_winters_83 : decode cX6_winters 83 = .ok (.iload 4, 2) := by decide +kernel
theorem dX6_winters_85 : decode cX6_winters 85 = .ok (.iconst 1, 1) := by decide +kernel
theorem dX6_winters_86 : decode cX6_winters 86 = .ok (.aload_n 0, 1) := by decide +kernel
theorem dX6_winters_87 : decode cX6_winters 87 = .ok (.getfield 22, 3) := by decide +kernel
theorem dX6_winters_90 : decode cX6_winters 90 = .ok (.iload 4, 2) := by decide +kernel
theorem dX6_winters_92 : decode cX6_winters 92 = .ok (.iaload, 1) := by decide +kernel
theorem dX6_winters_93 : decode cX6_winters 93 = .ok (.isub, 1) := by decide +kernel
theorem dX6_winters_94 : decode cX6_winters 94 = .ok (.iastore, 1) := by decide +kernel
theorem dX6_winters_95 : decode cX6_winters 95 = .ok (.goto 35, 3) := by decide +kernel
theorem dX6_winters_98 : decode cX6_winters 98 = .ok (.aload_n 0, 1) := by decide +kernel
theorem dX6_winters_99 : decode cX6_winters 99 = .ok (.iload_n 3, 1) := by decide +kernel
theorem dX6_winters_100 : decode cX6_winters 100 = .ok (.iconst 4, 1) := by decide +kernel
theorem dX6_winters_101 : decode cX6_winters 101 = .ok (.idiv, 1) := by decide +kernel
theorem dX6_winters_102 : decode cX6_winters 102 = .ok (.invokevirtual 111, 3) := by decide +kernel
theorem dX6_winters_105 : decode cX6_winters 105 = .ok (.ifCond .eq 25, 3) := by decide +kernel
theorem dX6_winters_108 : decode cX6_winters 108 = .ok (.aload_n 0, 1) := by decide +kernel
theorem dX6_winters_109 : decode cX6_winters 109 = .ok (.iload_n 3, 1) := by decide +kernel
theorem dX6_winters_110 : decode cX6_winters 110 = .ok (.iconst 4, 1) := by decide +kernel
theorem dX6_winters_111 : decode cX6_winters 111 = .ok (.irem, 1) := by decide +kernel
theorem dX6_winters_112 : decode cX6_winters 112 = .ok (.invokevirtual 118, 3) := by decide +kernel
theorem dX6_winters_115 : decode cX6_winters 115 = .ok (.ifCond .eq 15, 3) := by decide +kernel
theorem dX6_winters_118 : decode cX6_winters 118 = .ok (.aload_n 0, 1) := by decide +kernel
theorem dX6_winters_119 : decode cX6_winters 119 = .ok (.iconst 1, 1) := by decide +kernel
theorem dX6_winters_120 : decode cX6_winters 120 = .ok (.iload_n 3, 1) := by decide +kernel
theorem dX6_winters_121 : decode cX6_winters 121 = .ok (.iconst 4, 1) := by decide +kernel
theorem dX6_winters_122 : decode cX6_winters 122 = .ok (.idiv, 1) := by decide +kernel
theorem dX6_winters_123 : decode cX6_winters 123 = .ok (.iload_n 3, 1) := by decide +kernel
theorem dX6_winters_124 : decode cX6_winters 124 = .ok (.iconst 4, 1) := by decide +kernel
theorem dX6_winters_125 : decode cX6_winters 125 = .ok (.irem, 1) := by decide +kernel
theorem dX6_winters_126 : decode cX6_winters 126 = .ok (.invokevirtual 134, 3) := by decide +kernel
theorem dX6_winters_129 : decode cX6_winters 129 = .ok (.pop, 1) := by decide +kernel
theorem dX6_winters_130 : decode cX6_winters 130 = .ok (.iinc 2 1, 3) := by decide +kernel
theorem dX6_winters_133 : decode cX6_winters 133 = .ok (.goto (-112), 3) := by decide +kernel
theorem dX6_winters_136 : decode cX6_winters 136 = .ok (.aload_n 0, 1) := by decide +kernel
theorem dX6_winters_137 : decode cX6_winters 137 = .ok (.iconst 1, 1) := by decide +kernel
theorem dX6_winters_138 : decode cX6_winters 138 = .ok (.invokevirtual 205, 3) := by decide +kernel
theorem dX6_winters_141 : decode cX6_winters 141 = .ok (.ireturn, 1) := by decide +kernel
theorem dX6_keep_0 : decode cX6_keep 0 = .ok (.iload_n 1, 1) := by decide +kernel
theorem dX6_keep_1 : decode cX6_keep 1 = .ok (.i2l, 1) := by decide +kernel
theorem dX6_keep_2 : decode cX6_keep 2 = .ok (.lconst 0, 1) := by decide +kernel
theorem dX6_keep_3 : decode cX6_keep 3 = .ok (.lconst 1, 1) := by decide +kernel
theorem dX6_keep_4 : decode cX6_keep 4 = .ok (.invokestatic 58, 3) := by decide +kernel
theorem dX6_keep_7 : decode cX6_keep 7 = .ok (.ifCond .ne 5, 3) := by decide +kernel
theorem dX6_keep_10 : decode cX6_keep 10 = .ok (.iconst (-1), 1) := by decide +kernel
theorem dX6_keep_11 : decode cX6_keep 11 = .ok (.ireturn, 1) := by decide +kernel
theorem dX6_keep_12 : decode cX6_keep 12 = .ok (.aload_n 0, 1) := by decide +kernel
theorem dX6_keep_13 : decode cX6_keep 13 = .ok (.getfield 49, 3) := by decide +kernel
theorem dX6_keep_16 : decode cX6_keep 16 = .ok (.iload_n 1, 1) := by decide +kernel
theorem dX6_keep_17 : decode cX6_keep 17 = .ok (.iconst 1, 1) := by decide +kernel
theorem dX6_keep_18 : decode cX6_keep 18 = .ok (.bastore, 1) := by decide +kernel
theorem dX6_keep_19 : decode cX6_keep 19 = .ok (.iconst 0, 1) := by decide +kernel
theorem dX6_keep_20 : decode cX6_keep 20 = .ok (.istore_n 2, 1) := by decide +kernel
theorem dX6_keep_21 : decode cX6_keep 21 = .ok (.iload_n 2, 1) := by decide +kernel
theorem dX6_keep_22 : decode cX6_keep 22 = .ok (.bipush 9, 2) := by decide +kernel
theorem dX6_keep_24 : decode cX6_keep 24 = .ok (.if_icmp .ge 26, 3) := by decide +kernel
theorem dX6_keep_27 : decode cX6_keep 27 = .ok (.aload_n 0, 1) := by decide +kernel
theorem dX6_keep_28 : decode cX6_keep 28 = .ok (.getfield 53, 3) := by decide +kernel
theorem dX6_keep_31 : decode cX6_keep 31 = .ok (.bipush 9, 2) := by decide +kernel
theorem dX6_keep_33 : decode cX6_keep 33 = .ok (.iload_n 1, 1) := by decide +kernel
theorem dX6_keep_34 : decode cX6_keep 34 = .ok (.imul, 1) := by decide +kernel
theorem dX6_keep_35 : decode cX6_keep 35 = .ok (.iload_n 2, 1) := by decide +kernel
theorem dX6_keep_36 : decode cX6_keep 36 = .ok (.iadd, 1) := by decide +kernel
theorem dX6_keep_37 : decode cX6_keep 37 = .ok (.aload_n 0, 1) := by decide +kernel
theorem dX6_keep_38 : decode cX6_keep 38 = .ok (.getfield 22, 3) := by decide +kernel
theorem dX6_keep_41 : decode cX6_keep 41 = .ok (.iload_n 2, 1) := by decide +kernel
theorem dX6_keep_42 : decode cX6_keep 42 = .ok (.iaload, 1) := by decide +kernel
theorem dX6_keep_43 : decode cX6_keep 43 = .ok (.iastore, 1) := by decide +kernel
theorem dX6_keep_44 : decode cX6_keep 44 = .ok (.iinc 2 1, 3) := by decide +kernel
theorem dX6_keep_47 : decode cX6_keep 47 = .ok (.goto (-26), 3) := by decide +kernel
theorem dX6_keep_50 : decode cX6_keep 50 = .ok (.aload_n 0, 1) := by decide +kernel
theorem dX6_keep_51 : decode cX6_keep 51 = .ok (.getfield 22, 3) := by decide +kernel
theorem dX6_keep_54 : decode cX6_keep 54 = .ok (.iconst 5, 1) := by decide +kernel
theorem dX6_keep_55 : decode cX6_keep 55 = .ok (.iaload, 1) := by decide +kernel
theorem dX6_keep_56 : decode cX6_keep 56 = .ok (.aload_n 0, 1) := by decide +kernel
theorem dX6_keep_57 : decode cX6_keep 57 = .ok (.getfield 22, 3) := by decide +kernel
theorem dX6_keep_60 : decode cX6_keep 60 = .ok (.bipush 6, 2) := by decide +kernel
theorem dX6_keep_62 : decode cX6_keep 62 = .ok (.iaload, 1) := by decide +kernel
theorem dX6_keep_63 : decode cX6_keep 63 = .ok (.ior, 1) := by decide +kernel
theorem dX6_keep_64 : decode cX6_keep 64 = .ok (.invokestatic 137, 3) := by decide +kernel
theorem dX6_keep_67 : decode cX6_keep 67 = .ok (.ireturn, 1) := by decide +kernel
theorem dX6_again_0 : decode cX6_again 0 = .ok (.iload_n 1, 1) := by decide +kernel
theorem dX6_again_1 : decode cX6_again 1 = .ok (.i2l, 1) := by decide +kernel
theorem dX6_again_2 : decode cX6_again 2 = .ok (.lconst 0, 1) := by decide +kernel
theorem dX6_again_3 : decode cX6_again 3 = .ok (.lconst 1, 1) := by decide +kernel
theorem dX6_again_4 : decode cX6_again 4 = .ok (.invokestatic 58, 3) := by decide +kernel
theorem dX6_again_7 : decode cX6_again 7 = .ok (.ifCond .ne 5, 3) := by decide +kernel
theorem dX6_again_10 : decode cX6_again 10 = .ok (.iconst (-1), 1) := by decide +kernel
theorem dX6_again_11 : decode cX6_again 11 = .ok (.ireturn, 1) := by decide +kernel
theorem dX6_again_12 : decode cX6_again 12 = .ok (.aload_n 0, 1) := by decide +kernel
theorem dX6_again_13 : decode cX6_again 13 = .ok (.getfield 49, 3) := by decide +kernel
theorem dX6_again_16 : decode cX6_again 16 = .ok (.iload_n 1, 1) := by decide +kernel
theorem dX6_again_17 : decode cX6_again 17 = .ok (.baload, 1) := by decide +kernel
theorem dX6_again_18 : decode cX6_again 18 = .ok (.ifCond .ne 6, 3) := by decide +kernel
theorem dX6_again_21 : decode cX6_again 21 = .ok (.bipush (-3), 2) := by decide +kernel
theorem dX6_again_23 : decode cX6_again 23 = .ok (.ireturn, 1) := by decide +kernel
theorem dX6_again_24 : decode cX6_again 24 = .ok (.iconst 0, 1) := by decide +kernel
theorem dX6_again_25 : decode cX6_again 25 = .ok (.istore_n 2, 1) := by decide +kernel
theorem dX6_again_26 : decode cX6_again 26 = .ok (.iload_n 2, 1) := by decide +kernel
theorem dX6_again_27 : decode cX6_again 27 = .ok (.bipush 9, 2) := by decide +kernel
theorem dX6_again_29 : decode cX6_again 29 = .ok (.if_icmp .ge 26, 3) := by decide +kernel
theorem dX6_again_32 : decode cX6_again 32 = .ok (.aload_n 0, 1) := by decide +kernel
theorem dX6_again_33 : decode cX6_again 33 = .ok (.getfield 22, 3) := by decide +kernel
theorem dX6_again_36 : decode cX6_again 36 = .ok (.iload_n 2, 1) := by decide +kernel
theorem dX6_again_37 : decode cX6_again 37 = .ok (.aload_n 0, 1) := by decide +kernel
theorem dX6_again_38 : decode cX6_again 38 = .ok (.getfield 53, 3) := by decide +kernel
theorem dX6_again_41 : decode cX6_again 41 = .ok (.bipush 9, 2) := by decide +kernel
theorem dX6_again_43 : decode cX6_again 43 = .ok (.iload_n 1, 1) := by decide +kernel
theorem dX6_again_44 : decode cX6_again 44 = .ok (.imul, 1) := by decide +kernel
theorem dX6_again_45 : decode cX6_again 45 = .ok (.iload_n 2, 1) := by decide +kernel
theorem dX6_again_46 : decode cX6_again 46 = .ok (.iadd, 1) := by decide +kernel
theorem dX6_again_47 : decode cX6_again 47 = .ok (.iaload, 1) := by decide +kernel
theorem dX6_again_48 : decode cX6_again 48 = .ok (.iastore, 1) := by decide +kernel
theorem dX6_again_49 : decode cX6_again 49 = .ok (.iinc 2 1, 3) := by decide +kernel
theorem dX6_again_52 : decode cX6_again 52 = .ok (.goto (-26), 3) := by decide +kernel
theorem dX6_again_55 : decode cX6_again 55 = .ok (.aload_n 0, 1) := by decide +kernel
theorem dX6_again_56 : decode cX6_again 56 = .ok (.iconst 0, 1) := by decide +kernel
theorem dX6_again_57 : decode cX6_again 57 = .ok (.putfield 92, 3) := by decide +kernel
theorem dX6_again_60 : decode cX6_again 60 = .ok (.aload_n 0, 1) := by decide +kernel
theorem dX6_again_61 : decode cX6_again 61 = .ok (.getfield 22, 3) := by decide +kernel
theorem dX6_again_64 : decode cX6_again 64 = .ok (.iconst 5, 1) := by decide +kernel
theorem dX6_again_65 : decode cX6_again 65 = .ok (.iaload, 1) := by decide +kernel
theorem dX6_again_66 : decode cX6_again 66 = .ok (.aload_n 0, 1) := by decide +kernel
theorem dX6_again_67 : decode cX6_again 67 = .ok (.getfield 22, 3) := by decide +kernel
theorem dX6_again_70 : decode cX6_again 70 = .ok (.bipush 6, 2) := by decide +kernel
theorem dX6_again_72 : decode cX6_again 72 = .ok (.iaload, 1) := by decide +kernel
theorem dX6_again_73 : decode cX6_again 73 = .ok (.ior, 1) := by decide +kernel
theorem dX6_again_74 : decode cX6_again 74 = .ok (.invokestatic 137, 3) := by decide +kernel
theorem dX6_again_77 : decode cX6_again 77 = .ok (.ireturn, 1) := by decide +kernel
theorem dX6_count_0 : decode cX6_count 0 = .ok (.iload_n 1, 1) := by decide +kernel
theorem dX6_count_1 : decode cX6_count 1 = .ok (.tableswitch 116 0 8 #[51, 56, 61, 66, 74, 82, 100, 106, 111], 51) := by decide +kernel
theorem dX6_count_52 : decode cX6_count 52 = .ok (.aload_n 0, 1) := by decide +kernel
theorem dX6_count_53 : decode cX6_count 53 = .ok (.getfield 62, 3) := by decide +kernel
theorem dX6_count_56 : decode cX6_count 56 = .ok (.ireturn, 1) := by decide +kernel
theorem dX6_count_57 : decode cX6_count 57 = .ok (.aload_n 0, 1) := by decide +kernel
theorem dX6_count_58 : decode cX6_count 58 = .ok (.getfield 86, 3) := by decide +kernel
theorem dX6_count_61 : decode cX6_count 61 = .ok (.ireturn, 1) := by decide +kernel
theorem dX6_count_62 : decode cX6_count 62 = .ok (.aload_n 0, 1) := by decide +kernel
theorem dX6_count_63 : decode cX6_count 63 = .ok (.getfield 89, 3) := by decide +kernel
theorem dX6_count_66 : decode cX6_count 66 = .ok (.ireturn, 1) := by decide +kernel
theorem dX6_count_67 : decode cX6_count 67 = .ok (.aload_n 0, 1) := by decide +kernel
theorem dX6_count_68 : decode cX6_count 68 = .ok (.getfield 22, 3) := by decide +kernel
theorem dX6_count_71 : decode cX6_count 71 = .ok (.bipush 7, 2) := by decide +kernel
theorem dX6_count_73 : decode cX6_count 73 = .ok (.iaload, 1) := by decide +kernel
theorem dX6_count_74 : decode cX6_count 74 = .ok (.ireturn, 1) := by decide +kernel
theorem dX6_count_75 : decode cX6_count 75 = .ok (.aload_n 0, 1) := by decide +kernel
theorem dX6_count_76 : decode cX6_count 76 = .ok (.getfield 22, 3) := by decide +kernel
theorem dX6_count_79 : decode cX6_count 79 = .ok (.bipush 8, 2) := by decide +kernel
theorem dX6_count_81 : decode cX6_count 81 = .ok (.iaload, 1) := by decide +kernel
theorem dX6_count_82 : decode cX6_count 82 = .ok (.ireturn, 1) := by decide +kernel
theorem dX6_count_83 : decode cX6_count 83 = .ok (.aload_n 0, 1) := by decide +kernel
theorem dX6_count_84 : decode cX6_count 84 = .ok (.getfield 22, 3) := by decide +kernel
theorem dX6_count_87 : decode cX6_count 87 = .ok (.iconst 5, 1) := by decide +kernel
theorem dX6_count_88 : decode cX6_count 88 = .ok (.iaload, 1) := by decide +kernel
theorem dX6_count_89 : decode cX6_count 89 = .ok (.aload_n 0, 1) := by decide +kernel
theorem dX6_count_90 : decode cX6_count 90 = .ok (.getfield 22, 3) := by decide +kernel
theorem dX6_count_93 : decode cX6_count 93 = .ok (.bipush 6, 2) := by decide +kernel
theorem dX6_count_95 : decode cX6_count 95 = .ok (.iaload, 1) := by decide +kernel
theorem dX6_count_96 : decode cX6_count 96 = .ok (.ior, 1) := by decide +kernel
theorem dX6_count_97 : decode cX6_count 97 = .ok (.invokestatic 137, 3) := by decide +kernel
theorem dX6_count_100 : decode cX6_count 100 = .ok (.ireturn, 1) := by decide +kernel
theorem dX6_count_101 : decode cX6_count 101 = .ok (.aload_n 0, 1) := by decide +kernel
theorem dX6_count_102 : decode cX6_count 102 = .ok (.iconst 0, 1) := by decide +kernel
theorem dX6_count_103 : decode cX6_count 103 = .ok (.invokevirtual 205, 3) := by decide +kernel
theorem dX6_count_106 : decode cX6_count 106 = .ok (.ireturn, 1) := by decide +kernel
theorem dX6_count_107 : decode cX6_count 107 = .ok (.aload_n 0, 1) := by decide +kernel
theorem dX6_count_108 : decode cX6_count 108 = .ok (.getfield 92, 3) := by decide +kernel
theorem dX6_count_111 : decode cX6_count 111 = .ok (.ireturn, 1) := by decide +kernel
theorem dX6_count_112 : decode cX6_count 112 = .ok (.aload_n 0, 1) := by decide +kernel
theorem dX6_count_113 : decode cX6_count 113 = .ok (.getfield 154, 3) := by decide +kernel
theorem dX6_count_116 : decode cX6_count 116 = .ok (.ireturn, 1) := by decide +kernel
theorem dX6_count_117 : decode cX6_count 117 = .ok (.bipush (-2), 2) := by decide +kernel
theorem dX6_count_119 : decode cX6_count 119 = .ok (.ireturn, 1) := by decide +kernel
