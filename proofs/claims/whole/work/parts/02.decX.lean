theorem dX0_init_0 : decode cX0_init 0 = .ok (.aload_n 0, 1) := by decide +kernel
theorem dX0_init_1 : decode cX0_init 1 = .ok (.invokespecial 3, 3) := by decide +kernel
theorem dX0_init_4 : decode cX0_init 4 = .ok (.aload_n 0, 1) := by decide +kernel
theorem dX0_init_5 : decode cX0_init 5 = .ok (.bipush 14, 2) := by decide +kernel
theorem dX0_init_7 : decode cX0_init 7 = .ok (.anewarray 9, 3) := by decide +kernel
theorem dX0_init_10 : decode cX0_init 10 = .ok (.putfield 11, 3) := by decide +kernel
theorem dX0_init_13 : decode cX0_init 13 = .ok (.iconst 0, 1) := by decide +kernel
theorem dX0_init_14 : decode cX0_init 14 = .ok (.istore_n 1, 1) := by decide +kernel
theorem dX0_init_15 : decode cX0_init 15 = .ok (.iload_n 1, 1) := by decide +kernel
theorem dX0_init_16 : decode cX0_init 16 = .ok (.bipush 14, 2) := by decide +kernel
theorem dX0_init_18 : decode cX0_init 18 = .ok (.if_icmp .ge 22, 3) := by decide +kernel
theorem dX0_init_21 : decode cX0_init 21 = .ok (.aload_n 0, 1) := by decide +kernel
theorem dX0_init_22 : decode cX0_init 22 = .ok (.getfield 11, 3) := by decide +kernel
theorem dX0_init_25 : decode cX0_init 25 = .ok (.iload_n 1, 1) := by decide +kernel
theorem dX0_init_26 : decode cX0_init 26 = .ok (.new 9, 3) := by decide +kernel
theorem dX0_init_29 : decode cX0_init 29 = .ok (.dup, 1) := by decide +kernel
theorem dX0_init_30 : decode cX0_init 30 = .ok (.invokespecial 17, 3) := by decide +kernel
theorem dX0_init_33 : decode cX0_init 33 = .ok (.aastore, 1) := by decide +kernel
theorem dX0_init_34 : decode cX0_init 34 = .ok (.iinc 1 1, 3) := by decide +kernel
theorem dX0_init_37 : decode cX0_init 37 = .ok (.goto (-22), 3) := by decide +kernel
theorem dX0_init_40 : decode cX0_init 40 = .ok (.return_, 1) := by decide +kernel
theorem dX0_clear_0 : decode cX0_clear 0 = .ok (.aload_n 0, 1) := by decide +kernel
theorem dX0_clear_1 : decode cX0_clear 1 = .ok (.iconst 0, 1) := by decide +kernel
theorem dX0_clear_2 : decode cX0_clear 2 = .ok (.putfield 18, 3) := by decide +kernel
theorem dX0_clear_5 : decode cX0_clear 5 = .ok (.return_, 1) := by decide +kernel
theorem dX0_remember_0 : decode cX0_remember 0 = .ok (.aload_n 0, 1) := by decide +kernel
theorem dX0_remember_1 : decode cX0_remember 1 = .ok (.getfield 11, 3) := by decide +kernel
theorem dX0_remember_4 : decode cX0_remember 4 = .ok (.aload_n 0, 1) := by decide +kernel
theorem dX0_remember_5 : decode cX0_remember 5 = .ok (.getfield 22, 3) := by decide +kernel
theorem dX0_remember_8 : decode cX0_remember 8 = .ok (.aaload, 1) := by decide +kernel
theorem dX0_remember_9 : decode cX0_remember 9 = .ok (.aload_n 1, 1) := by decide +kernel
theorem dX0_remember_10 : decode cX0_remember 10 = .ok (.invokevirtual 25, 3) := by decide +kernel
theorem dX0_remember_13 : decode cX0_remember 13 = .ok (.aload_n 0, 1) := by decide +kernel
theorem dX0_remember_14 : decode cX0_remember 14 = .ok (.aload_n 0, 1) := by decide +kernel
theorem dX0_remember_15 : decode cX0_remember 15 = .ok (.getfield 22, 3) := by decide +kernel
theorem dX0_remember_18 : decode cX0_remember 18 = .ok (.iconst 1, 1) := by decide +kernel
theorem dX0_remember_19 : decode cX0_remember 19 = .ok (.iadd, 1) := by decide +kernel
theorem dX0_remember_20 : decode cX0_remember 20 = .ok (.bipush 14, 2) := by decide +kernel
theorem dX0_remember_22 : decode cX0_remember 22 = .ok (.if_icmp .ge 12, 3) := by decide +kernel
theorem dX0_remember_25 : decode cX0_remember 25 = .ok (.aload_n 0, 1) := by decide +kernel
theorem dX0_remember_26 : decode cX0_remember 26 = .ok (.getfield 22, 3) := by decide +kernel
theorem dX0_remember_29 : decode cX0_remember 29 = .ok (.iconst 1, 1) := by decide +kernel
theorem dX0_remember_30 : decode cX0_remember 30 = .ok (.iadd, 1) := by decide +kernel
theorem dX0_remember_31 : decode cX0_remember 31 = .ok (.goto 4, 3) := by decide +kernel
theorem dX0_remember_34 : decode cX0_remember 34 = .ok (.iconst 0, 1) := by decide +kernel
theorem dX0_remember_35 : decode cX0_remember 35 = .ok (.putfield 22, 3) := by decide +kernel
theorem dX0_remember_38 : decode cX0_remember 38 = .ok (.aload_n 0, 1) := by decide +kernel
theorem dX0_remember_39 : decode cX0_remember 39 = .ok (.bipush 14, 2) := by decide +kernel
theorem dX0_remember_41 : decode cX0_remember 41 = .ok (.aload_n 0, 1) := by decide +kernel
theorem dX0_remember_42 : decode cX0_remember 42 = .ok (.getfield 18, 3) := by decide +kernel
theorem dX0_remember_45 : decode cX0_remember 45 = .ok (.iconst 1, 1) := by decide +kernel
theorem dX0_remember_46 : decode cX0_remember 46 = .ok (.iadd, 1) := by decide +kernel
theorem dX0_remember_47 : decode cX0_remember 47 = .ok (.invokestatic 29, 3) := by decide +kernel
theorem dX0_remember_50 : decode cX0_remember 50 = .ok (.putfield 18, 3) := by decide +kernel
theorem dX0_remember_53 : decode cX0_remember 53 = .ok (.return_, 1) := by decide +kernel
theorem dX0_takeBack_0 : decode cX0_takeBack 0 = .ok (.aload_n 0, 1) := by decide +kernel
theorem dX0_takeBack_1 : decode cX0_takeBack 1 = .ok (.getfield 18, 3) := by decide +kernel
theorem dX0_takeBack_4 : decode cX0_takeBack 4 = .ok (.ifCond .le 48, 3) := by decide +kernel
theorem dX0_takeBack_7 : decode cX0_takeBack 7 = .ok (.aload_n 0, 1) := by decide +kernel
theorem dX0_takeBack_8 : decode cX0_takeBack 8 = .ok (.aload_n 0, 1) := by decide +kernel
theorem dX0_takeBack_9 : decode cX0_takeBack 9 = .ok (.getfield 22, 3) := by decide +kernel
theorem dX0_takeBack_12 : decode cX0_takeBack 12 = .ok (.ifCond .le 12, 3) := by decide +kernel
theorem dX0_takeBack_15 : decode cX0_takeBack 15 = .ok (.aload_n 0, 1) := by decide +kernel
theorem dX0_takeBack_16 : decode cX0_takeBack 16 = .ok (.getfield 22, 3) := by decide +kernel
theorem dX0_takeBack_19 : decode cX0_takeBack 19 = .ok (.iconst 1, 1) := by decide +kernel
theorem dX0_takeBack_20 : decode cX0_takeBack 20 = .ok (.isub, 1) := by decide +kernel
theorem dX0_takeBack_21 : decode cX0_takeBack 21 = .ok (.goto 5, 3) := by decide +kernel
theorem dX0_takeBack_24 : decode cX0_takeBack 24 = .ok (.bipush 13, 2) := by decide +kernel
theorem dX0_takeBack_26 : decode cX0_takeBack 26 = .ok (.putfield 22, 3) := by decide +kernel
theorem dX0_takeBack_29 : decode cX0_takeBack 29 = .ok (.aload_n 0, 1) := by decide +kernel
theorem dX0_takeBack_30 : decode cX0_takeBack 30 = .ok (.dup, 1) := by decide +kernel
theorem dX0_takeBack_31 : decode cX0_takeBack 31 = .ok (.getfield 18, 3) := by decide +kernel
theorem dX0_takeBack_34 : decode cX0_takeBack 34 = .ok (.iconst 1, 1) := by decide +kernel
theorem dX0_takeBack_35 : decode cX0_takeBack 35 = .ok (.isub, 1) := by decide +kernel
theorem dX0_takeBack_36 : decode cX0_takeBack 36 = .ok (.putfield 18, 3) := by decide +kernel
theorem dX0_takeBack_39 : decode cX0_takeBack 39 = .ok (.aload_n 1, 1) := by decide +kernel
theorem dX0_takeBack_40 : decode cX0_takeBack 40 = .ok (.aload_n 0, 1) := by decide +kernel
theorem dX0_takeBack_41 : decode cX0_takeBack 41 = .ok (.getfield 11, 3) := by decide +kernel
theorem dX0_takeBack_44 : decode cX0_takeBack 44 = .ok (.aload_n 0, 1) := by decide +kernel
theorem dX0_takeBack_45 : decode cX0_takeBack 45 = .ok (.getfield 22, 3) := by decide +kernel
theorem dX0_takeBack_48 : decode cX0_takeBack 48 = .ok (.aaload, 1) := by decide +kernel
theorem dX0_takeBack_49 : decode cX0_takeBack 49 = .ok (.invokevirtual 25, 3) := by decide +kernel
theorem dX0_takeBack_52 : decode cX0_takeBack 52 = .ok (.return_, 1) := by decide +kernel
theorem dX1_init_0 : decode cX1_init 0 = .ok (.aload_n 0, 1) := by decide +kernel
theorem dX1_init_1 : decode cX1_init 1 = .ok (.invokespecial 3, 3) := by decide +kernel
theorem dX1_init_4 : decode cX1_init 4 = .ok (.aload_n 0, 1) := by decide +kernel
theorem dX1_init_5 : decode cX1_init 5 = .ok (.iconst 1, 1) := by decide +kernel
theorem dX1_init_6 : decode cX1_init 6 = .ok (.putfield 9, 3) := by decide +kernel
theorem dX1_init_9 : decode cX1_init 9 = .ok (.aload_n 0, 1) := by decide +kernel
theorem dX1_init_10 : decode cX1_init 10 = .ok (.iconst 1, 1) := by decide +kernel
theorem dX1_init_11 : decode cX1_init 11 = .ok (.putfield 15, 3) := by decide +kernel
theorem dX1_init_14 : decode cX1_init 14 = .ok (.return_, 1) := by decide +kernel
theorem dX1_clear_0 : decode cX1_clear 0 = .ok (.aload_n 0, 1) := by decide +kernel
theorem dX1_clear_1 : decode cX1_clear 1 = .ok (.iconst 0, 1) := by decide +kernel
theorem dX1_clear_2 : decode cX1_clear 2 = .ok (.putfield 18, 3) := by decide +kernel
theorem dX1_clear_5 : decode cX1_clear 5 = .ok (.aload_n 0, 1) := by decide +kernel
theorem dX1_clear_6 : decode cX1_clear 6 = .ok (.iconst 0, 1) := by decide +kernel
theorem dX1_clear_7 : decode cX1_clear 7 = .ok (.putfield 22, 3) := by decide +kernel
theorem dX1_clear_10 : decode cX1_clear 10 = .ok (.aload_n 0, 1) := by decide +kernel
theorem dX1_clear_11 : decode cX1_clear 11 = .ok (.iconst 0, 1) := by decide +kernel
theorem dX1_clear_12 : decode cX1_clear 12 = .ok (.putfield 25, 3) := by decide +kernel
theorem dX1_clear_15 : decode cX1_clear 15 = .ok (.aload_n 0, 1) := by decide +kernel
theorem dX1_clear_16 : decode cX1_clear 16 = .ok (.iconst 1, 1) := by decide +kernel
theorem dX1_clear_17 : decode cX1_clear 17 = .ok (.putfield 9, 3) := by decide +kernel
theorem dX1_clear_20 : decode cX1_clear 20 = .ok (.aload_n 0, 1) := by decide +kernel
theorem dX1_clear_21 : decode cX1_clear 21 = .ok (.iconst 1, 1) := by decide +kernel
theorem dX1_clear_22 : decode cX1_clear 22 = .ok (.putfield 15, 3) := by decide +kernel
theorem dX1_clear_25 : decode cX1_clear 25 = .ok (.return_, 1) := by decide +kernel
theorem dX1_copyFrom_0 : decode cX1_copyFrom 0 = .ok (.aload_n 0, 1) := by decide +kernel
theorem dX1_copyFrom_1 : decode cX1_copyFrom 1 = .ok (.aload_n 1, 1) := by decide +kernel
theorem dX1_copyFrom_2 : decode cX1_copyFrom 2 = .ok (.getfield 18, 3) := by decide +kernel
theorem dX1_copyFrom_5 : decode cX1_copyFrom 5 = .ok (.putfield 18, 3) := by decide +kernel
theorem dX1_copyFrom_8 : decode cX1_copyFrom 8 = .ok (.aload_n 0, 1) := by decide +kernel
theorem dX1_copyFrom_9 : decode cX1_copyFrom 9 = .ok (.aload_n 1, 1) := by decide +kernel
theorem dX1_copyFrom_10 : decode cX1_copyFrom 10 = .ok (.getfield 22, 3) := by decide +kernel
theorem dX1_copyFrom_13 : decode cX1_copyFrom 13 = .ok (.putfield 22, 3) := by decide +kernel
theorem dX1_copyFrom_16 : decode cX1_copyFrom 16 = .ok (.aload_n 0, 1) := by decide +kernel
theorem dX1_copyFrom_17 : decode cX1_copyFrom 17 = .ok (.aload_n 1, 1) := by decide +kernel
theorem dX1_copyFrom_18 : decode cX1_copyFrom 18 = .ok (.getfield 25, 3) := by decide +kernel
theorem dX1_copyFrom_21 : decode cX1_copyFrom 21 = .ok (.putfield 25, 3) := by decide +kernel
theorem dX1_copyFrom_24 : decode cX1_copyFrom 24 = .ok (.aload_n 0, 1) := by decide +kernel
theorem dX1_copyFrom_25 : decode cX1_copyFrom 25 = .ok (.aload_n 1, 1) := by decide +kernel
theorem dX1_copyFrom_26 : decode cX1_copyFrom 26 = .ok (.getfield 9, 3) := by decide +kernel
theorem dX1_copyFrom_29 : decode cX1_copyFrom 29 = .ok (.putfield 9, 3) := by decide +kernel
theorem dX1_copyFrom_32 : decode cX1_copyFrom 32 = .ok (.aload_n 0, 1) := by decide +kernel
theorem dX1_copyFrom_33 : decode cX1_copyFrom 33 = .ok (.aload_n 1, 1) := by decide +kernel
theorem dX1_copyFrom_34 : decode cX1_copyFrom 34 = .ok (.getfield 15, 3) := by decide +kernel
theorem dX1_copyFrom_37 : decode cX1_copyFrom 37 = .ok (.putfield 15, 3) := by decide +kernel
theorem dX1_copyFrom_40 : decode cX1_copyFrom 40 = .ok (.return_, 1) := by decide +kernel
theorem dX1_paper_0 : decode cX1_paper 0 = .ok (.iconst 1, 1) := by decide +kernel
theorem dX1_paper_1 : decode cX1_paper 1 = .ok (.iconst 4, 1) := by decide +kernel
theorem dX1_paper_2 : decode cX1_paper 2 = .ok (.iload_n 0, 1) := by decide +kernel
theorem dX1_paper_3 : decode cX1_paper 3 = .ok (.imul, 1) := by decide +kernel
theorem dX1_paper_4 : decode cX1_paper 4 = .ok (.iload_n 1, 1) := by decide +kernel
theorem dX1_paper_5 : decode cX1_paper 5 = .ok (.iadd, 1) := by decide +kernel
theorem dX1_paper_6 : decode cX1_paper 6 = .ok (.ishl, 1) := by decide +kernel
theorem dX1_paper_7 : decode cX1_paper 7 = .ok (.ireturn, 1) := by decide +kernel
theorem dX1_onSample_0 : decode cX1_onSample 0 = .ok (.iload_n 0, 1) := by decide +kernel
theorem dX1_onSample_1 : decode cX1_onSample 1 = .ok (.ldc 28, 2) := by decide +kernel
theorem dX1_onSample_3 : decode cX1_onSample 3 = .ok (.iload_n 1, 1) := by decide +kernel
theorem dX1_onSample_4 : decode cX1_onSample 4 = .ok (.ishl, 1) := by decide +kernel
theorem dX1_onSample_5 : decode cX1_onSample 5 = .ok (.iand, 1) := by decide +kernel
theorem dX1_onSample_6 : decode cX1_onSample 6 = .ok (.ireturn, 1) := by decide +kernel
theorem dX1_printers_0 : decode cX1_printers 0 = .ok (.iconst 0, 1) := by decide +kernel
theorem dX1_printers_1 : decode cX1_printers 1 = .ok (.istore_n 2, 1) := by decide +kernel
theorem dX1_printers_2 : decode cX1_printers 2 = .ok (.iconst 0, 1) := by decide +kernel
theorem dX1_printers_3 : decode cX1_printers 3 = .ok (.istore_n 3, 1) := by decide +kernel
theorem dX1_printers_4 : decode cX1_printers 4 = .ok (.iload_n 3, 1) := by decide +kernel
theorem dX1_printers_5 : decode cX1_printers 5 = .ok (.iconst 5, 1) := by decide +kernel
theorem dX1_printers_6 : decode cX1_printers 6 = .ok (.if_icmp .ge 25, 3) := by decide +kernel
theorem dX1_printers_9 : decode cX1_printers 9 = .ok (.iload_n 0, 1) := by decide +kernel
theorem dX1_printers_10 : decode cX1_printers 10 = .ok (.iload_n 3, 1) := by decide +kernel
theorem dX1_printers_11 : decode cX1_printers 11 = .ok (.iload_n 1, 1) := by decide +kernel
theorem dX1_printers_12 : decode cX1_printers 12 = .ok (.invokestatic 29, 3) := by decide +kernel
theorem dX1_printers_15 : decode cX1_printers 15 = .ok (.iand, 1) := by decide +kernel
theorem dX1_printers_16 : decode cX1_printers 16 = .ok (.ifCond .eq 9, 3) := by decide +kernel
theorem dX1_printers_19 : decode cX1_printers 19 = .ok (.iload_n 2, 1) := by decide +kernel
theorem dX1_printers_20 : decode cX1_printers 20 = .ok (.iconst 1, 1) := by decide +kernel
theorem dX1_printers_21 : decode cX1_printers 21 = .ok (.iload_n 3, 1) := by decide +kernel
theorem dX1_printers_22 : decode cX1_printers 22 = .ok (.ishl, 1) := by decide +kernel
theorem dX1_printers_23 : decode cX1_printers 23 = .ok (.ior, 1) := by decide +kernel
theorem dX1_printers_24 : decode cX1_printers 24 = .ok (.istore_n 2, 1) := by decide +kernel
theorem dX1_printers_25 : decode cX1_printers 25 = .ok (.iinc 3 1, 3) := by decide +kernel
theorem dX1_printers_28 : decode cX1_printers 28 = .ok (.goto (-24), 3) := by decide +kernel
theorem dX1_printers_31 : decode cX1_printers 31 = .ok (.iload_n 2, 1) := by decide +kernel
theorem dX1_printers_32 : decode cX1_printers 32 = .ok (.ireturn, 1) := by decide +kernel
theorem dX1_allPapers_0 : decode cX1_allPapers 0 = .ok (.aload_n 0, 1) := by decide +kernel
theorem dX1_allPapers_1 : decode cX1_allPapers 1 = .ok (.getfield 18, 3) := by decide +kernel
theorem dX1_allPapers_4 : decode cX1_allPapers 4 = .ok (.aload_n 0, 1) := by decide +kernel
theorem dX1_allPapers_5 : decode cX1_allPapers 5 = .ok (.getfield 22, 3) := by decide +kernel
theorem dX1_allPapers_8 : decode cX1_allPapers 8 = .ok (.ior, 1) := by decide +kernel
theorem dX1_allPapers_9 : decode cX1_allPapers 9 = .ok (.ireturn, 1) := by decide +kernel
theorem dX1_paperCount_0 : decode cX1_paperCount 0 = .ok (.aload_n 0, 1) := by decide +kernel
theorem dX1_paperCount_1 : decode cX1_paperCount 1 = .ok (.invokevirtual 33, 3) := by decide +kernel
theorem dX1_paperCount_4 : decode cX1_paperCount 4 = .ok (.invokestatic 37, 3) := by decide +kernel
theorem dX1_paperCount_7 : decode cX1_paperCount 7 = .ok (.ireturn, 1) := by decide +kernel
theorem dX1_rightPapers_0 : decode cX1_rightPapers 0 = .ok (.iconst 0, 1) := by decide +kernel
theorem dX1_rightPapers_1 : decode cX1_rightPapers 1 = .ok (.istore_n 2, 1) := by decide +kernel
theorem dX1_rightPapers_2 : decode cX1_rightPapers 2 = .ok (.iconst 0, 1) := by decide +kernel
theorem dX1_rightPapers_3 : decode cX1_rightPapers 3 = .ok (.istore_n 3, 1) := by decide +kernel
theorem dX1_rightPapers_4 : decode cX1_rightPapers 4 = .ok (.iload_n 3, 1) := by decide +kernel
theorem dX1_rightPapers_5 : decode cX1_rightPapers 5 = .ok (.aload_n 1, 1) := by decide +kernel
theorem dX1_rightPapers_6 : decode cX1_rightPapers 6 = .ok (.getfield 43, 3) := by decide +kernel
theorem dX1_rightPapers_9 : decode cX1_rightPapers 9 = .ok (.if_icmp .ge 38, 3) := by decide +kernel
theorem dX1_rightPapers_12 : decode cX1_rightPapers 12 = .ok (.iload_n 2, 1) := by decide +kernel
theorem dX1_rightPapers_13 : decode cX1_rightPapers 13 = .ok (.aload_n 1, 1) := by decide +kernel
theorem dX1_rightPapers_14 : decode cX1_rightPapers 14 = .ok (.iload_n 3, 1) := by decide +kernel
theorem dX1_rightPapers_15 : decode cX1_rightPapers 15 = .ok (.invokevirtual 48, 3) := by decide +kernel
theorem dX1_rightPapers_18 : decode cX1_rightPapers 18 = .ok (.ifCond .eq 10, 3) := by decide +kernel
theorem dX1_rightPapers_21 : decode cX1_rightPapers 21 = .ok (.aload_n 0, 1) := by decide +kernel
theorem dX1_rightPapers_22 : decode cX1_rightPapers 22 = .ok (.getfield 18, 3) := by decide +kernel
theorem dX1_rightPapers_25 : decode cX1_rightPapers 25 = .ok (.goto 7, 3) := by decide +kernel
theorem dX1_rightPapers_28 : decode cX1_rightPapers 28 = .ok (.aload_n 0, 1) := by decide +kernel
theorem dX1_rightPapers_29 : decode cX1_rightPapers 29 = .ok (.getfield 22, 3) := by decide +kernel
theorem dX1_rightPapers_32 : decode cX1_rightPapers 32 = .ok (.iload_n 3, 1) := by decide +kernel
theorem dX1_rightPapers_33 : decode cX1_rightPapers 33 = .ok (.invokestatic 52, 3) := by decide +kernel
theorem dX1_rightPapers_36 : decode cX1_rightPapers 36 = .ok (.invokestatic 37, 3) := by decide +kernel
theorem dX1_rightPapers_39 : decode cX1_rightPapers 39 = .ok (.iadd, 1) := by decide +kernel
theorem dX1_rightPapers_40 : decode cX1_rightPapers 40 = .ok (.istore_n 2, 1) := by decide +kernel
theorem dX1_rightPapers_41 : decode cX1_rightPapers 41 = .ok (.iinc 3 1, 3) := by decide +kernel
theorem dX1_rightPapers_44 : decode cX1_rightPapers 44 = .ok (.goto (-40), 3) := by decide +kernel
theorem dX1_rightPapers_47 : decode cX1_rightPapers 47 = .ok (.iload_n 2, 1) := by decide +kernel
theorem dX1_rightPapers_48 : decode cX1_rightPapers 48 = .ok (.ireturn, 1) := by decide +kernel
theorem dX1_readingsOf_0 : decode cX1_readingsOf 0 = .ok (.aload_n 0, 1) := by decide +kernel
theorem dX1_readingsOf_1 : decode cX1_readingsOf 1 = .ok (.getfield 25, 3) := by decide +kernel
theorem dX1_readingsOf_4 : decode cX1_readingsOf 4 = .ok (.iconst 4, 1) := by decide +kernel
theorem dX1_readingsOf_5 : decode cX1_readingsOf 5 = .ok (.iload_n 1, 1) := by decide +kernel
theorem dX1_readingsOf_6 : decode cX1_readingsOf 6 = .ok (.imul, 1) := by decide +kernel
theorem dX1_readingsOf_7 : decode cX1_readingsOf 7 = .ok (.ishr, 1) := by decide +kernel
theorem dX1_readingsOf_8 : decode cX1_readingsOf 8 = .ok (.bipush 15, 2) := by decide +kernel
theorem dX1_readingsOf_10 : decode cX1_readingsOf 10 = .ok (.iand, 1) := by decide +kernel
theorem dX1_readingsOf_11 : decode cX1_readingsOf 11 = .ok (.ireturn, 1) := by decide +kernel
theorem dX1_setReadings_0 : decode cX1_setReadings 0 = .ok (.aload_n 0, 1) := by decide +kernel
theorem dX1_setReadings_1 : decode cX1_setReadings 1 = .ok (.aload_n 0, 1) := by decide +kernel
theorem dX1_setReadings_2 : decode cX1_setReadings 2 = .ok (.getfield 25, 3) := by decide +kernel
theorem dX1_setReadings_5 : decode cX1_setReadings 5 = .ok (.bipush 15, 2) := by decide +kernel
theorem dX1_setReadings_7 : decode cX1_setReadings 7 = .ok (.iconst 4, 1) := by decide +kernel
theorem dX1_setReadings_8 : decode cX1_setReadings 8 = .ok (.iload_n 1, 1) := by decide +kernel
theorem dX1_setReadings_9 : decode cX1_setReadings 9 = .ok (.imul, 1) := by decide +kernel
theorem dX1_setReadings_10 : decode cX1_setReadings 10 = .ok (.ishl, 1) := by decide +kernel
theorem dX1_setReadings_11 : decode cX1_setReadings 11 = .ok (.iconst (-1), 1) := by decide +kernel
theorem dX1_setReadings_12 : decode cX1_setReadings 12 = .ok (.ixor, 1) := by decide +kernel
theorem dX1_setReadings_13 : decode cX1_setReadings 13 = .ok (.iand, 1) := by decide +kernel
theorem dX1_setReadings_14 : decode cX1_setReadings 14 = .ok (.iload_n 2, 1) := by decide +kernel
theorem dX1_setReadings_15 : decode cX1_setReadings 15 = .ok (.iconst 4, 1) := by decide +kernel
theorem dX1_setReadings_16 : decode cX1_setReadings 16 = .ok (.iload_n 1, 1) := by decide +kernel
theorem dX1_setReadings_17 : decode cX1_setReadings 17 = .ok (.imul, 1) := by decide +kernel
theorem dX1_setReadings_18 : decode cX1_setReadings 18 = .ok (.ishl, 1) := by decide +kernel
theorem dX1_setReadings_19 : decode cX1_setReadings 19 = .ok (.ior, 1) := by decide +kernel
theorem dX1_setReadings_20 : decode cX1_setReadings 20 = .ok (.putfield 25, 3) := by decide +kernel
theorem dX1_setReadings_23 : decode cX1_setReadings 23 = .ok (.return_, 1) := by decide +kernel
theorem dX1_seenBy_0 : decode cX1_seenBy 0 = .ok (.aload_n 1, 1) := by decide +kernel
theorem dX1_seenBy_1 : decode cX1_seenBy 1 = .ok (.iload_n 2, 1) := by decide +kernel
theorem dX1_seenBy_2 : decode cX1_seenBy 2 = .ok (.iload_n 3, 1) := by decide +kernel
theorem dX1_seenBy_3 : decode cX1_seenBy 3 = .ok (.aload_n 1, 1) := by decide +kernel
theorem dX1_seenBy_4 : decode cX1_seenBy 4 = .ok (.iload_n 2, 1) := by decide +kernel
theorem dX1_seenBy_5 : decode cX1_seenBy 5 = .ok (.invokevirtual 55, 3) := by decide +kernel
theorem dX1_seenBy_8 : decode cX1_seenBy 8 = .ok (.aload_n 0, 1) := by decide +kernel
theorem dX1_seenBy_9 : decode cX1_seenBy 9 = .ok (.iload_n 2, 1) := by decide +kernel
theorem dX1_seenBy_10 : decode cX1_seenBy 10 = .ok (.invokevirtual 58, 3) := by decide +kernel
theorem dX1_seenBy_13 : decode cX1_seenBy 13 = .ok (.aload_n 0, 1) := by decide +kernel
theorem dX1_seenBy_14 : decode cX1_seenBy 14 = .ok (.getfield 9, 3) := by decide +kernel
theorem dX1_seenBy_17 : decode cX1_seenBy 17 = .ok (.aload_n 0, 1) := by decide +kernel
theorem dX1_seenBy_18 : decode cX1_seenBy 18 = .ok (.getfield 15, 3) := by decide +kernel
theorem dX1_seenBy_21 : decode cX1_seenBy 21 = .ok (.invokevirtual 61, 3) := by decide +kernel
theorem dX1_seenBy_24 : decode cX1_seenBy 24 = .ok (.ireturn, 1) := by decide +kernel
theorem dX1_takeReading_0 : decode cX1_takeReading 0 = .ok (.aload_n 1, 1) := by decide +kernel
theorem dX1_takeReading_1 : decode cX1_takeReading 1 = .ok (.iload_n 2, 1) := by decide +kernel
theorem dX1_takeReading_2 : decode cX1_takeReading 2 = .ok (.aload_n 0, 1) := by decide +kernel
theorem dX1_takeReading_3 : decode cX1_takeReading 3 = .ok (.aload_n 1, 1) := by decide +kernel
theorem dX1_takeReading_4 : decode cX1_takeReading 4 = .ok (.iload_n 2, 1) := by decide +kernel
theorem dX1_takeReading_5 : decode cX1_takeReading 5 = .ok (.iload_n 3, 1) := by decide +kernel
theorem dX1_takeReading_6 : decode cX1_takeReading 6 = .ok (.invokevirtual 65, 3) := by decide +kernel
theorem dX1_takeReading_9 : decode cX1_takeReading 9 = .ok (.invokevirtual 69, 3) := by decide +kernel
theorem dX1_takeReading_12 : decode cX1_takeReading 12 = .ok (.istore 4, 2) := by decide +kernel
theorem dX1_takeReading_14 : decode cX1_takeReading 14 = .ok (.aload_n 0, 1) := by decide +kernel
theorem dX1_takeReading_15 : decode cX1_takeReading 15 = .ok (.iload_n 2, 1) := by decide +kernel
theorem dX1_takeReading_16 : decode cX1_takeReading 16 = .ok (.bipush 9, 2) := by decide +kernel
theorem dX1_takeReading_18 : decode cX1_takeReading 18 = .ok (.aload_n 0, 1) := by decide +kernel
theorem dX1_takeReading_19 : decode cX1_takeReading 19 = .ok (.iload_n 2, 1) := by decide +kernel
theorem dX1_takeReading_20 : decode cX1_takeReading 20 = .ok (.invokevirtual 58, 3) := by decide +kernel
theorem dX1_takeReading_23 : decode cX1_takeReading 23 = .ok (.iconst 1, 1) := by decide +kernel
theorem dX1_takeReading_24 : decode cX1_takeReading 24 = .ok (.iadd, 1) := by decide +kernel
theorem dX1_takeReading_25 : decode cX1_takeReading 25 = .ok (.invokestatic 73, 3) := by decide +kernel
theorem dX1_takeReading_28 : decode cX1_takeReading 28 = .ok (.invokevirtual 78, 3) := by decide +kernel
theorem dX1_takeReading_31 : decode cX1_takeReading 31 = .ok (.iload_n 2, 1) := by decide +kernel
theorem dX1_takeReading_32 : decode cX1_takeReading 32 = .ok (.iload_n 3, 1) := by decide +kernel
theorem dX1_takeReading_33 : decode cX1_takeReading 33 = .ok (.invokestatic 29, 3) := by decide +kernel
theorem dX1_takeReading_36 : decode cX1_takeReading 36 = .ok (.istore 5, 2) := by decide +kernel
theorem dX1_takeReading_38 : decode cX1_takeReading 38 = .ok (.aload_n 0, 1) := by decide +kernel
theorem dX1_takeReading_39 : decode cX1_takeReading 39 = .ok (.iload 5, 2) := by decide +kernel
theorem dX1_takeReading_41 : decode cX1_takeReading 41 = .ok (.invokevirtual 82, 3) := by decide +kernel
theorem dX1_takeReading_44 : decode cX1_takeReading 44 = .ok (.aload_n 0, 1) := by decide +kernel
theorem dX1_takeReading_45 : decode cX1_takeReading 45 = .ok (.dup, 1) := by decide +kernel
theorem dX1_takeReading_46 : decode cX1_takeReading 46 = .ok (.getfield 18, 3) := by decide +kernel
theorem dX1_takeReading_49 : decode cX1_takeReading 49 = .ok (.iload 4, 2) := by decide +kernel
theorem dX1_takeReading_51 : decode cX1_takeReading 51 = .ok (.ifCond .eq 8, 3) := by decide +kernel
theorem dX1_takeReading_54 : decode cX1_takeReading 54 = .ok (.iload 5, 2) := by decide +kernel
theorem dX1_takeReading_56 : decode cX1_takeReading 56 = .ok (.goto 4, 3) := by decide +kernel
theorem dX1_takeReading_59 : decode cX1_takeReading 59 = .ok (.iconst 0, 1) := by decide +kernel
theorem dX1_takeReading_60 : decode cX1_takeReading 60 = .ok (.ior, 1) := by decide +kernel
theorem dX1_takeReading_61 : decode cX1_takeReading 61 = .ok (.putfield 18, 3) := by decide +kernel
theorem dX1_takeReading_64 : decode cX1_takeReading 64 = .ok (.aload_n 0, 1) := by decide +kernel
theorem dX1_takeReading_65 : decode cX1_takeReading 65 = .ok (.dup, 1) := by decide +kernel
theorem dX1_takeReading_66 : decode cX1_takeReading 66 = .ok (.getfield 22, 3) := by decide +kernel
theorem dX1_takeReading_69 : decode cX1_takeReading 69 = .ok (.iload 4, 2) := by decide +kernel
theorem dX1_takeReading_71 : decode cX1_takeReading 71 = .ok (.ifCond .eq 7, 3) := by decide +kernel
theorem dX1_takeReading_74 : decode cX1_takeReading 74 = .ok (.iconst 0, 1) := by decide +kernel
theorem dX1_takeReading_75 : decode cX1_takeReading 75 = .ok (.goto 5, 3) := by decide +kernel
theorem dX1_takeReading_78 : decode cX1_takeReading 78 = .ok (.iload 5, 2) := by decide +kernel
theorem dX1_takeReading_80 : decode cX1_takeReading 80 = .ok (.ior, 1) := by decide +kernel
theorem dX1_takeReading_81 : decode cX1_takeReading 81 = .ok (.putfield 22, 3) := by decide +kernel
theorem dX1_takeReading_84 : decode cX1_takeReading 84 = .ok (.iload 4, 2) := by decide +kernel
theorem dX1_takeReading_86 : decode cX1_takeReading 86 = .ok (.ireturn, 1) := by decide +kernel
theorem dX1_dropPaper_0 : decode cX1_dropPaper 0 = .ok (.aload_n 0, 1) := by decide +kernel
theorem dX1_dropPaper_1 : decode cX1_dropPaper 1 = .ok (.dup, 1) := by decide +kernel
theorem dX1_dropPaper_2 : decode cX1_dropPaper 2 = .ok (.getfield 18, 3) := by decide +kernel
theorem dX1_dropPaper_5 : decode cX1_dropPaper 5 = .ok (.iload_n 1, 1) := by decide +kernel
theorem dX1_dropPaper_6 : decode cX1_dropPaper 6 = .ok (.iconst (-1), 1) := by decide +kernel
theorem dX1_dropPaper_7 : decode cX1_dropPaper 7 = .ok (.ixor, 1) := by decide +kernel
theorem dX1_dropPaper_8 : decode cX1_dropPaper 8 = .ok (.iand, 1) := by decide +kernel
theorem dX1_dropPaper_9 : decode cX1_dropPaper 9 = .ok (.putfield 18, 3) := by decide +kernel
theorem dX1_dropPaper_12 : decode cX1_dropPaper 12 = .ok (.aload_n 0, 1) := by decide +kernel
theorem dX1_dropPaper_13 : decode cX1_dropPaper 13 = .ok (.dup, 1) := by decide +kernel
theorem dX1_dropPaper_14 : decode cX1_dropPaper 14 = .ok (.getfield 22, 3) := by decide +kernel
theorem dX1_dropPaper_17 : decode cX1_dropPaper 17 = .ok (.iload_n 1, 1) := by decide +kernel
theorem dX1_dropPaper_18 : decode cX1_dropPaper 18 = .ok (.iconst (-1), 1) := by decide +kernel
theorem dX1_dropPaper_19 : decode cX1_dropPaper 19 = .ok (.ixor, 1) := by decide +kernel
theorem dX1_dropPaper_20 : decode cX1_dropPaper 20 = .ok (.iand, 1) := by decide +kernel
theorem dX1_dropPaper_21 : decode cX1_dropPaper 21 = .ok (.putfield 22, 3) := by decide +kernel
theorem dX1_dropPaper_24 : decode cX1_dropPaper 24 = .ok (.return_, 1) := by decide +kernel
theorem dX2_init_0 : decode cX2_init 0 = .ok (.aload_n 0, 1) := by decide +kernel
theorem dX2_init_1 : decode cX2_init 1 = .ok (.invokespecial 3, 3) := by decide +kernel
theorem dX2_init_4 : decode cX2_init 4 = .ok (.aload_n 0, 1) := by decide +kernel
theorem dX2_init_5 : decode cX2_init 5 = .ok (.bipush 6, 2) := by decide +kernel
theorem dX2_init_7 : decode cX2_init 7 = .ok (.newarray .int, 2) := by decide +kernel
theorem dX2_init_9 : decode cX2_init 9 = .ok (.putfield 9, 3) := by decide +kernel
theorem dX2_init_12 : decode cX2_init 12 = .ok (.aload_n 0, 1) := by decide +kernel
theorem dX2_init_13 : decode cX2_init 13 = .ok (.bipush 6, 2) := by decide +kernel
theorem dX2_init_15 : decode cX2_init 15 = .ok (.newarray .int, 2) := by decide +kernel
theorem dX2_init_17 : decode cX2_init 17 = .ok (.putfield 15, 3) := by decide +kernel
theorem dX2_init_20 : decode cX2_init 20 = .ok (.aload_n 0, 1) := by decide +kernel
theorem dX2_init_21 : decode cX2_init 21 = .ok (.bipush 6, 2) := by decide +kernel
theorem dX2_init_23 : decode cX2_init 23 = .ok (.newarray .boolean, 2) := by decide +kernel
theorem dX2_init_25 : decode cX2_init 25 = .ok (.putfield 18, 3) := by decide +kernel
theorem dX2_init_28 : decode cX2_init 28 = .ok (.aload_n 0, 1) := by decide +kernel
theorem dX2_init_29 : decode cX2_init 29 = .ok (.bipush 6, 2) := by decide +kernel
theorem dX2_init_31 : decode cX2_init 31 = .ok (.newarray .boolean, 2) := by decide +kernel
theorem dX2_init_33 : decode cX2_init 33 = .ok (.putfield 22, 3) := by decide +kernel
theorem dX2_init_36 : decode cX2_init 36 = .ok (.return_, 1) := by decide +kernel
theorem dX2_append_0 : decode cX2_append 0 = .ok (.aload_n 0, 1) := by decide +kernel
theorem dX2_append_1 : decode cX2_append 1 = .ok (.getfield 25, 3) := by decide +kernel
theorem dX2_append_4 : decode cX2_append 4 = .ok (.ifCond .lt 12, 3) := by decide +kernel
theorem dX2_append_7 : decode cX2_append 7 = .ok (.aload_n 0, 1) := by decide +kernel
theorem dX2_append_8 : decode cX2_append 8 = .ok (.getfield 25, 3) := by decide +kernel
theorem dX2_append_11 : decode cX2_append 11 = .ok (.bipush 6, 2) := by decide +kernel
theorem dX2_append_13 : decode cX2_append 13 = .ok (.if_icmp .lt 5, 3) := by decide +kernel
theorem dX2_append_16 : decode cX2_append 16 = .ok (.iconst 0, 1) := by decide +kernel
theorem dX2_append_17 : decode cX2_append 17 = .ok (.ireturn, 1) := by decide +kernel
theorem dX2_append_18 : decode cX2_append 18 = .ok (.aload_n 0, 1) := by decide +kernel
theorem dX2_append_19 : decode cX2_append 19 = .ok (.getfield 9, 3) := by decide +kernel
theorem dX2_append_22 : decode cX2_append 22 = .ok (.aload_n 0, 1) := by decide +kernel
theorem dX2_append_23 : decode cX2_append 23 = .ok (.getfield 25, 3) := by decide +kernel
theorem dX2_append_26 : decode cX2_append 26 = .ok (.iload_n 1, 1) := by decide +kernel
theorem dX2_append_27 : decode cX2_append 27 = .ok (.iastore, 1) := by decide +kernel
theorem dX2_append_28 : decode cX2_append 28 = .ok (.aload_n 0, 1) := by decide +kernel
theorem dX2_append_29 : decode cX2_append 29 = .ok (.getfield 15, 3) := by decide +kernel
theorem dX2_append_32 : decode cX2_append 32 = .ok (.aload_n 0, 1) := by decide +kernel
theorem dX2_append_33 : decode cX2_append 33 = .ok (.getfield 25, 3) := by decide +kernel
theorem dX2_append_36 : decode cX2_append 36 = .ok (.iload_n 2, 1) := by decide +kernel
theorem dX2_append_37 : decode cX2_append 37 = .ok (.iastore, 1) := by decide +kernel
theorem dX2_append_38 : decode cX2_append 38 = .ok (.aload_n 0, 1) := by decide +kernel
theorem dX2_append_39 : decode cX2_append 39 = .ok (.getfield 18, 3) := by decide +kernel
theorem dX2_append_42 : decode cX2_append 42 = .ok (.aload_n 0, 1) := by decide +kernel
theorem dX2_append_43 : decode cX2_append 43 = .ok (.getfield 25, 3) := by decide +kernel
theorem dX2_append_46 : decode cX2_append 46 = .ok (.iload_n 3, 1) := by decide +kernel
theorem dX2_append_47 : decode cX2_append 47 = .ok (.bastore, 1) := by decide +kernel
theorem dX2_append_48 : decode cX2_append 48 = .ok (.aload_n 0, 1) := by decide +kernel
theorem dX2_append_49 : decode cX2_append 49 = .ok (.getfield 22, 3) := by decide +kernel
theorem dX2_append_52 : decode cX2_append 52 = .ok (.aload_n 0, 1) := by decide +kernel
theorem dX2_append_53 : decode cX2_append 53 = .ok (.getfield 25, 3) := by decide +kernel
theorem dX2_append_56 : decode cX2_append 56 = .ok (.iload 4, 2) := by decide +kernel
theorem dX2_append_58 : decode cX2_append 58 = .ok (.bastore, 1) := by decide +kernel
theorem dX2_append_59 : decode cX2_append 59 = .ok (.aload_n 0, 1) := by decide +kernel
theorem dX2_append_60 : decode cX2_append 60 = .ok (.dup, 1) := by decide +kernel
theorem dX2_append_61 : decode cX2_append 61 = .ok (.getfield 25, 3) := by decide +kernel
theorem dX2_append_64 : decode cX2_append 64 = .ok (.iconst 1, 1) := by decide +kernel
theorem dX2_append_65 : decode cX2_append 65 = .ok (.iadd, 1) := by decide +kernel
theorem dX2_append_66 : decode cX2_append 66 = .ok (.putfield 25, 3) := by decide +kernel
theorem dX2_append_69 : decode cX2_append 69 = .ok (.iconst 1, 1) := by decide +kernel
theorem dX2_append_70 : decode cX2_append 70 = .ok (.ireturn, 1) := by decide +kernel
theorem dX2_agrees_0 : decode cX2_agrees 0 = .ok (.iconst 0, 1) := by decide +kernel
theorem dX2_agrees_1 : decode cX2_agrees 1 = .ok (.istore 4, 2) := by decide +kernel
theorem dX2_agrees_3 : decode cX2_agrees 3 = .ok (.iload 4, 2) := by decide +kernel
theorem dX2_agrees_5 : decode cX2_agrees 5 = .ok (.aload_n 0, 1) := by decide +kernel
theorem dX2_agrees_6 : decode cX2_agrees 6 = .ok (.getfield 25, 3) := by decide +kernel
theorem dX2_agrees_9 : decode cX2_agrees 9 = .ok (.if_icmp .ge 77, 3) := by decide +kernel
theorem dX2_agrees_12 : decode cX2_agrees 12 = .ok (.aload_n 0, 1) := by decide +kernel
theorem dX2_agrees_13 : decode cX2_agrees 13 = .ok (.getfield 9, 3) := by decide +kernel
theorem dX2_agrees_16 : decode cX2_agrees 16 = .ok (.iload 4, 2) := by decide +kernel
theorem dX2_agrees_18 : decode cX2_agrees 18 = .ok (.iaload, 1) := by decide +kernel
theorem dX2_agrees_19 : decode cX2_agrees 19 = .ok (.iload_n 2, 1) := by decide +kernel
theorem dX2_agrees_20 : decode cX2_agrees 20 = .ok (.if_icmp .ne 60, 3) := by decide +kernel
theorem dX2_agrees_23 : decode cX2_agrees 23 = .ok (.aload_n 1, 1) := by decide +kernel
theorem dX2_agrees_24 : decode cX2_agrees 24 = .ok (.aload_n 0, 1) := by decide +kernel
theorem dX2_agrees_25 : decode cX2_agrees 25 = .ok (.getfield 15, 3) := by decide +kernel
theorem dX2_agrees_28 : decode cX2_agrees 28 = .ok (.iload 4, 2) := by decide +kernel
theorem dX2_agrees_30 : decode cX2_agrees 30 = .ok (.iaload, 1) := by decide +kernel
theorem dX2_agrees_31 : decode cX2_agrees 31 = .ok (.invokevirtual 29, 3) := by decide +kernel
theorem dX2_agrees_34 : decode cX2_agrees 34 = .ok (.ifCond .eq 46, 3) := by decide +kernel
theorem dX2_agrees_37 : decode cX2_agrees 37 = .ok (.aload_n 1, 1) := by decide +kernel
theorem dX2_agrees_38 : decode cX2_agrees 38 = .ok (.iload_n 2, 1) := by decide +kernel
theorem dX2_agrees_39 : decode cX2_agrees 39 = .ok (.aload_n 0, 1) := by decide +kernel
theorem dX2_agrees_40 : decode cX2_agrees 40 = .ok (.getfield 15, 3) := by decide +kernel
theorem dX2_agrees_43 : decode cX2_agrees 43 = .ok (.iload 4, 2) := by decide +kernel
theorem dX2_agrees_45 : decode cX2_agrees 45 = .ok (.iaload, 1) := by decide +kernel
theorem dX2_agrees_46 : decode cX2_agrees 46 = .ok (.iload_n 3, 1) := by decide +kernel
theorem dX2_agrees_47 : decode cX2_agrees 47 = .ok (.iconst 0, 1) := by decide +kernel
theorem dX2_agrees_48 : decode cX2_agrees 48 = .ok (.aload_n 0, 1) := by decide +kernel
theorem dX2_agrees_49 : decode cX2_agrees 49 = .ok (.getfield 18, 3) := by decide +kernel
theorem dX2_agrees_52 : decode cX2_agrees 52 = .ok (.iload 4, 2) := by decide +kernel
theorem dX2_agrees_54 : decode cX2_agrees 54 = .ok (.baload, 1) := by decide +kernel
theorem dX2_agrees_55 : decode cX2_agrees 55 = .ok (.iconst 1, 1) := by decide +kernel
theorem dX2_agrees_56 : decode cX2_agrees 56 = .ok (.invokevirtual 35, 3) := by decide +kernel
theorem dX2_agrees_59 : decode cX2_agrees 59 = .ok (.istore 5, 2) := by decide +kernel
theorem dX2_agrees_61 : decode cX2_agrees 61 = .ok (.aload_n 1, 1) := by decide +kernel
theorem dX2_agrees_62 : decode cX2_agrees 62 = .ok (.iload_n 2, 1) := by decide +kernel
theorem dX2_agrees_63 : decode cX2_agrees 63 = .ok (.iload 5, 2) := by decide +kernel
theorem dX2_agrees_65 : decode cX2_agrees 65 = .ok (.invokevirtual 39, 3) := by decide +kernel
theorem dX2_agrees_68 : decode cX2_agrees 68 = .ok (.aload_n 0, 1) := by decide +kernel
theorem dX2_agrees_69 : decode cX2_agrees 69 = .ok (.getfield 22, 3) := by decide +kernel
theorem dX2_agrees_72 : decode cX2_agrees 72 = .ok (.iload 4, 2) := by decide +kernel
theorem dX2_agrees_74 : decode cX2_agrees 74 = .ok (.baload, 1) := by decide +kernel
theorem dX2_agrees_75 : decode cX2_agrees 75 = .ok (.if_icmp .eq 5, 3) := by decide +kernel
theorem dX2_agrees_78 : decode cX2_agrees 78 = .ok (.iconst 0, 1) := by decide +kernel
theorem dX2_agrees_79 : decode cX2_agrees 79 = .ok (.ireturn, 1) := by decide +kernel
theorem dX2_agrees_80 : decode cX2_agrees 80 = .ok (.iinc 4 1, 3) := by decide +kernel
theorem dX2_agrees_83 : decode cX2_agrees 83 = .ok (.goto (-80), 3) := by decide +kernel
theorem dX2_agrees_86 : decode cX2_agrees 86 = .ok (.iconst 1, 1) := by decide +kernel
theorem dX2_agrees_87 : decode cX2_agrees 87 = .ok (.ireturn, 1) := by decide +kernel
theorem dX3_init_0 : decode cX3_init 0 = .ok (.aload_n 0, 1) := by decide +kernel
theorem dX3_init_1 : decode cX3_init 1 = .ok (.invokespecial 3, 3) := by decide +kernel
theorem dX3_init_4 : decode cX3_init 4 = .ok (.aload_n 0, 1) := by decide +kernel
theorem dX3_init_5 : decode cX3_init 5 = .ok (.iconst 5, 1) := by decide +kernel
theorem dX3_init_6 : decode cX3_init 6 = .ok (.newarray .int, 2) := by decide +kernel
theorem dX3_init_8 : decode cX3_init 8 = .ok (.putfield 9, 3) := by decide +kernel
theorem dX3_init_11 : decode cX3_init 11 = .ok (.aload_n 0, 1) := by decide +kernel
theorem dX3_init_12 : decode cX3_init 12 = .ok (.iconst 5, 1) := by decide +kernel
theorem dX3_init_13 : decode cX3_init 13 = .ok (.newarray .int, 2) := by decide +kernel
theorem dX3_init_15 : decode cX3_init 15 = .ok (.putfield 15, 3) := by decide +kernel
theorem dX3_init_18 : decode cX3_init 18 = .ok (.aload_n 0, 1) := by decide +kernel
theorem dX3_init_19 : decode cX3_init 19 = .ok (.iconst 5, 1) := by decide +kernel
theorem dX3_init_20 : decode cX3_init 20 = .ok (.newarray .int, 2) := by decide +kernel
theorem dX3_init_22 : decode cX3_init 22 = .ok (.putfield 18, 3) := by decide +kernel
theorem dX3_init_25 : decode cX3_init 25 = .ok (.aload_n 0, 1) := by decide +kernel
theorem dX3_init_26 : decode cX3_init 26 = .ok (.iconst 4, 1) := by decide +kernel
theorem dX3_init_27 : decode cX3_init 27 = .ok (.newarray .int, 2) := by decide +kernel
theorem dX3_init_29 : decode cX3_init 29 = .ok (.putfield 21, 3) := by decide +kernel
theorem dX3_init_32 : decode cX3_init 32 = .ok (.return_, 1) := by decide +kernel
theorem dX3_make_0 : decode cX3_make 0 = .ok (.aload_n 0, 1) := by decide +kernel
theorem dX3_make_1 : decode cX3_make 1 = .ok (.iconst 0, 1) := by decide +kernel
theorem dX3_make_2 : decode cX3_make 2 = .ok (.putfield 24, 3) := by decide +kernel
theorem dX3_make_5 : decode cX3_make 5 = .ok (.aload_n 0, 1) := by decide +kernel
theorem dX3_make_6 : decode cX3_make 6 = .ok (.iconst 0, 1) := by decide +kernel
theorem dX3_make_7 : decode cX3_make 7 = .ok (.putfield 28, 3) := by decide +kernel
theorem dX3_make_10 : decode cX3_make 10 = .ok (.iconst 1, 1) := by decide +kernel
theorem dX3_make_11 : decode cX3_make 11 = .ok (.istore_n 2, 1) := by decide +kernel
theorem dX3_make_12 : decode cX3_make 12 = .ok (.iload_n 2, 1) := by decide +kernel
theorem dX3_make_13 : decode cX3_make 13 = .ok (.aload_n 1, 1) := by decide +kernel
theorem dX3_make_14 : decode cX3_make 14 = .ok (.getfield 31, 3) := by decide +kernel
theorem dX3_make_17 : decode cX3_make 17 = .ok (.if_icmp .ge 44, 3) := by decide +kernel
theorem dX3_make_20 : decode cX3_make 20 = .ok (.aload_n 1, 1) := by decide +kernel
theorem dX3_make_21 : decode cX3_make 21 = .ok (.iload_n 2, 1) := by decide +kernel
theorem dX3_make_22 : decode cX3_make 22 = .ok (.invokevirtual 36, 3) := by decide +kernel
theorem dX3_make_25 : decode cX3_make 25 = .ok (.bipush 82, 2) := by decide +kernel
theorem dX3_make_27 : decode cX3_make 27 = .ok (.if_icmp .ne 17, 3) := by decide +kernel
theorem dX3_make_30 : decode cX3_make 30 = .ok (.aload_n 0, 1) := by decide +kernel
theorem dX3_make_31 : decode cX3_make 31 = .ok (.aload_n 1, 1) := by decide +kernel
theorem dX3_make_32 : decode cX3_make 32 = .ok (.iload_n 2, 1) := by decide +kernel
theorem dX3_make_33 : decode cX3_make 33 = .ok (.iconst 1, 1) := by decide +kernel
theorem dX3_make_34 : decode cX3_make 34 = .ok (.iadd, 1) := by decide +kernel
theorem dX3_make_35 : decode cX3_make 35 = .ok (.invokevirtual 40, 3) := by decide +kernel
theorem dX3_make_38 : decode cX3_make 38 = .ok (.iinc 2 4, 3) := by decide +kernel
theorem dX3_make_41 : decode cX3_make 41 = .ok (.goto (-29), 3) := by decide +kernel
theorem dX3_make_44 : decode cX3_make 44 = .ok (.aload_n 0, 1) := by decide +kernel
theorem dX3_make_45 : decode cX3_make 45 = .ok (.aload_n 1, 1) := by decide +kernel
theorem dX3_make_46 : decode cX3_make 46 = .ok (.iload_n 2, 1) := by decide +kernel
theorem dX3_make_47 : decode cX3_make 47 = .ok (.iconst 1, 1) := by decide +kernel
theorem dX3_make_48 : decode cX3_make 48 = .ok (.iadd, 1) := by decide +kernel
theorem dX3_make_49 : decode cX3_make 49 = .ok (.invokevirtual 44, 3) := by decide +kernel
theorem dX3_make_52 : decode cX3_make 52 = .ok (.invokevirtual 47, 3) := by decide +kernel
theorem dX3_make_55 : decode cX3_make 55 = .ok (.iinc 2 2, 3) := by decide +kernel
theorem dX3_make_58 : decode cX3_make 58 = .ok (.goto (-46), 3) := by decide +kernel
theorem dX3_make_61 : decode cX3_make 61 = .ok (.return_, 1) := by decide +kernel
theorem dX3_addReader_0 : decode cX3_addReader 0 = .ok (.aload_n 0, 1) := by decide +kernel
theorem dX3_addReader_1 : decode cX3_addReader 1 = .ok (.getfield 24, 3) := by decide +kernel
theorem dX3_addReader_4 : decode cX3_addReader 4 = .ok (.iconst 5, 1) := by decide +kernel
theorem dX3_addReader_5 : decode cX3_addReader 5 = .ok (.if_icmp .ge 59, 3) := by decide +kernel
theorem dX3_addReader_8 : decode cX3_addReader 8 = .ok (.aload_n 0, 1) := by decide +kernel
theorem dX3_addReader_9 : decode cX3_addReader 9 = .ok (.getfield 9, 3) := by decide +kernel
theorem dX3_addReader_12 : decode cX3_addReader 12 = .ok (.aload_n 0, 1) := by decide +kernel
theorem dX3_addReader_13 : decode cX3_addReader 13 = .ok (.getfield 24, 3) := by decide +kernel
theorem dX3_addReader_16 : decode cX3_addReader 16 = .ok (.aload_n 1, 1) := by decide +kernel
theorem dX3_addReader_17 : decode cX3_addReader 17 = .ok (.iload_n 2, 1) := by decide +kernel
theorem dX3_addReader_18 : decode cX3_addReader 18 = .ok (.invokevirtual 44, 3) := by decide +kernel
theorem dX3_addReader_21 : decode cX3_addReader 21 = .ok (.iastore, 1) := by decide +kernel
theorem dX3_addReader_22 : decode cX3_addReader 22 = .ok (.aload_n 0, 1) := by decide +kernel
theorem dX3_addReader_23 : decode cX3_addReader 23 = .ok (.getfield 15, 3) := by decide +kernel
theorem dX3_addReader_26 : decode cX3_addReader 26 = .ok (.aload_n 0, 1) := by decide +kernel
theorem dX3_addReader_27 : decode cX3_addReader 27 = .ok (.getfield 24, 3) := by decide +kernel
theorem dX3_addReader_30 : decode cX3_addReader 30 = .ok (.aload_n 1, 1) := by decide +kernel
theorem dX3_addReader_31 : decode cX3_addReader 31 = .ok (.iload_n 2, 1) := by decide +kernel
theorem dX3_addReader_32 : decode cX3_addReader 32 = .ok (.iconst 1, 1) := by decide +kernel
theorem dX3_addReader_33 : decode cX3_addReader 33 = .ok (.iadd, 1) := by decide +kernel
theorem dX3_addReader_34 : decode cX3_addReader 34 = .ok (.invokevirtual 44, 3) := by decide +kernel
theorem dX3_addReader_37 : decode cX3_addReader 37 = .ok (.iastore, 1) := by decide +kernel
theorem dX3_addReader_38 : decode cX3_addReader 38 = .ok (.aload_n 0, 1) := by decide +kernel
theorem dX3_addReader_39 : decode cX3_addReader 39 = .ok (.getfield 18, 3) := by decide +kernel
theorem dX3_addReader_42 : decode cX3_addReader 42 = .ok (.aload_n 0, 1) := by decide +kernel
theorem dX3_addReader_43 : decode cX3_addReader 43 = .ok (.getfield 24, 3) := by decide +kernel
theorem dX3_addReader_46 : decode cX3_addReader 46 = .ok (.aload_n 1, 1) := by decide +kernel
theorem dX3_addReader_47 : decode cX3_addReader 47 = .ok (.iload_n 2, 1) := by decide +kernel
theorem dX3_addReader_48 : decode cX3_addReader 48 = .ok (.iconst 2, 1) := by decide +kernel
theorem dX3_addReader_49 : decode cX3_addReader 49 = .ok (.iadd, 1) := by decide +kernel
theorem dX3_addReader_50 : decode cX3_addReader 50 = .ok (.invokevirtual 44, 3) := by decide +kernel
theorem dX3_addReader_53 : decode cX3_addReader 53 = .ok (.iastore, 1) := by decide +kernel
theorem dX3_addReader_54 : decode cX3_addReader 54 = .ok (.aload_n 0, 1) := by decide +kernel
theorem dX3_addReader_55 : decode cX3_addReader 55 = .ok (.dup, 1) := by decide +kernel
theorem dX3_addReader_56 : decode cX3_addReader 56 = .ok (.getfield 24, 3) := by decide +kernel
theorem dX3_addReader_59 : decode cX3_addReader 59 = .ok (.iconst 1, 1) := by decide +kernel
theorem dX3_addReader_60 : decode cX3_addReader 60 = .ok (.iadd, 1) := by decide +kernel
theorem dX3_addReader_61 : decode cX3_addReader 61 = .ok (.putfield 24, 3) := by decide +kernel
theorem dX3_addReader_64 : decode cX3_addReader 64 = .ok (.return_, 1) := by decide +kernel
theorem dX3_addSample_0 : decode cX3_addSample 0 = .ok (.aload_n 0, 1) := by decide +kernel
theorem dX3_addSample_1 : decode cX3_addSample 1 = .ok (.getfield 28, 3) := by decide +kernel
theorem dX3_addSample_4 : decode cX3_addSample 4 = .ok (.iconst 4, 1) := by decide +kernel
theorem dX3_addSample_5 : decode cX3_addSample 5 = .ok (.if_icmp .ge 23, 3) := by decide +kernel
theorem dX3_addSample_8 : decode cX3_addSample 8 = .ok (.aload_n 0, 1) := by decide +kernel
theorem dX3_addSample_9 : decode cX3_addSample 9 = .ok (.getfield 21, 3) := by decide +kernel
theorem dX3_addSample_12 : decode cX3_addSample 12 = .ok (.aload_n 0, 1) := by decide +kernel
theorem dX3_addSample_13 : decode cX3_addSample 13 = .ok (.getfield 28, 3) := by decide +kernel
theorem dX3_addSample_16 : decode cX3_addSample 16 = .ok (.iload_n 1, 1) := by decide +kernel
theorem dX3_addSample_17 : decode cX3_addSample 17 = .ok (.iastore, 1) := by decide +kernel
theorem dX3_addSample_18 : decode cX3_addSample 18 = .ok (.aload_n 0, 1) := by decide +kernel
theorem dX3_addSample_19 : decode cX3_addSample 19 = .ok (.dup, 1) := by decide +kernel
theorem dX3_addSample_20 : decode cX3_addSample 20 = .ok (.getfield 28, 3) := by decide +kernel
theorem dX3_addSample_23 : decode cX3_addSample 23 = .ok (.iconst 1, 1) := by decide +kernel
theorem dX3_addSample_24 : decode cX3_addSample 24 = .ok (.iadd, 1) := by decide +kernel
theorem dX3_addSample_25 : decode cX3_addSample 25 = .ok (.putfield 28, 3) := by decide +kernel
theorem dX3_addSample_28 : decode cX3_addSample 28 = .ok (.return_, 1) := by decide +kernel
theorem dX3_hasReader_0 : decode cX3_hasReader 0 = .ok (.iload_n 1, 1) := by decide +kernel
theorem dX3_hasReader_1 : decode cX3_hasReader 1 = .ok (.ifCond .lt 15, 3) := by decide +kernel
theorem dX3_hasReader_4 : decode cX3_hasReader 4 = .ok (.iload_n 1, 1) := by decide +kernel
theorem dX3_hasReader_5 : decode cX3_hasReader 5 = .ok (.aload_n 0, 1) := by decide +kernel
theorem dX3_hasReader_6 : decode cX3_hasReader 6 = .ok (.getfield 24, 3) := by decide +kernel
theorem dX3_hasReader_9 : decode cX3_hasReader 9 = .ok (.if_icmp .ge 7, 3) := by decide +kernel
theorem dX3_hasReader_12 : decode cX3_hasReader 12 = .ok (.iconst 1, 1) := by decide +kernel
theorem dX3_hasReader_13 : decode cX3_hasReader 13 = .ok (.goto 4, 3) := by decide +kernel
theorem dX3_hasReader_16 : decode cX3_hasReader 16 = .ok (.iconst 0, 1) := by decide +kernel
theorem dX3_hasReader_17 : decode cX3_hasReader 17 = .ok (.ireturn, 1) := by decide +kernel
theorem dX3_hasSample_0 : decode cX3_hasSample 0 = .ok (.iload_n 1, 1) := by decide +kernel
theorem dX3_hasSample_1 : decode cX3_hasSample 1 = .ok (.ifCond .lt 15, 3) := by decide +kernel
theorem dX3_hasSample_4 : decode cX3_hasSample 4 = .ok (.iload_n 1, 1) := by decide +kernel
theorem dX3_hasSample_5 : decode cX3_hasSample 5 = .ok (.aload_n 0, 1) := by decide +kernel
theorem dX3_hasSample_6 : decode cX3_hasSample 6 = .ok (.getfield 28, 3) := by decide +kernel
theorem dX3_hasSample_9 : decode cX3_hasSample 9 = .ok (.if_icmp .ge 7, 3) := by decide +kernel
theorem dX3_hasSample_12 : decode cX3_hasSample 12 = .ok (.iconst 1, 1) := by decide +kernel
theorem dX3_hasSample_13 : decode cX3_hasSample 13 = .ok (.goto 4, 3) := by decide +kernel
theorem dX3_hasSample_16 : decode cX3_hasSample 16 = .ok (.iconst 0, 1) := by decide +kernel
theorem dX3_hasSample_17 : decode cX3_hasSample 17 = .ok (.ireturn, 1) := by decide +kernel
theorem dX3_hasBoth_0 : decode cX3_hasBoth 0 = .ok (.aload_n 0, 1) := by decide +kernel
theorem dX3_hasBoth_1 : decode cX3_hasBoth 1 = .ok (.iload_n 1, 1) := by decide +kernel
theorem dX3_hasBoth_2 : decode cX3_hasBoth 2 = .ok (.invokevirtual 51, 3) := by decide +kernel
theorem dX3_hasBoth_5 : decode cX3_hasBoth 5 = .ok (.ifCond .eq 15, 3) := by decide +kernel
theorem dX3_hasBoth_8 : decode cX3_hasBoth 8 = .ok (.aload_n 0, 1) := by decide +kernel
theorem dX3_hasBoth_9 : decode cX3_hasBoth 9 = .ok (.iload_n 2, 1) := by decide +kernel
theorem dX3_hasBoth_10 : decode cX3_hasBoth 10 = .ok (.invokevirtual 55, 3) := by decide +kernel
theorem dX3_hasBoth_13 : decode cX3_hasBoth 13 = .ok (.ifCond .eq 7, 3) := by decide +kernel
theorem dX3_hasBoth_16 : decode cX3_hasBoth 16 = .ok (.iconst 1, 1) := by decide +kernel
theorem dX3_hasBoth_17 : decode cX3_hasBoth 17 = .ok (.goto 4, 3) := by decide +kernel
theorem dX3_hasBoth_20 : decode cX3_hasBoth 20 = .ok (.iconst 0, 1) := by decide +kernel
theorem dX3_hasBoth_21 : decode cX3_hasBoth 21 = .ok (.ireturn, 1) := by decide +kernel
theorem dX3_allReaders_0 : decode cX3_allReaders 0 = .ok (.iconst 1, 1) := by decide +kernel
theorem dX3_allReaders_1 : decode cX3_allReaders 1 = .ok (.aload_n 0, 1) := by decide +kernel
theorem dX3_allReaders_2 : decode cX3_allReaders 2 = .ok (.getfield 24, 3) := by decide +kernel
theorem dX3_allReaders_5 : decode cX3_allReaders 5 = .ok (.ishl, 1) := by decide +kernel
theorem dX3_allReaders_6 : decode cX3_allReaders 6 = .ok (.iconst 1, 1) := by decide +kernel
theorem dX3_allReaders_7 : decode cX3_allReaders 7 = .ok (.isub, 1) := by decide +kernel
theorem dX3_allReaders_8 : decode cX3_allReaders 8 = .ok (.ireturn, 1) := by decide +kernel
theorem dX3_isBright_0 : decode cX3_isBright 0 = .ok (.aload_n 0, 1) := by decide +kernel
theorem dX3_isBright_1 : decode cX3_isBright 1 = .ok (.iload_n 1, 1) := by decide +kernel
theorem dX3_isBright_2 : decode cX3_isBright 2 = .ok (.invokevirtual 55, 3) := by decide +kernel
theorem dX3_isBright_5 : decode cX3_isBright 5 = .ok (.ifCond .eq 16, 3) := by decide +kernel
theorem dX3_isBright_8 : decode cX3_isBright 8 = .ok (.aload_n 0, 1) := by decide +kernel
theorem dX3_isBright_9 : decode cX3_isBright 9 = .ok (.getfield 21, 3) := by decide +kernel
theorem dX3_isBright_12 : decode cX3_isBright 12 = .ok (.iload_n 1, 1) := by decide +kernel
theorem dX3_isBright_13 : decode cX3_isBright 13 = .ok (.iaload, 1) := by decide +kernel
theorem dX3_isBright_14 : decode cX3_isBright 14 = .ok (.ifCond .le 7, 3) := by decide +kernel
theorem dX3_isBright_17 : decode cX3_isBright 17 = .ok (.iconst 1, 1) := by decide +kernel
theorem dX3_isBright_18 : decode cX3_isBright 18 = .ok (.goto 4, 3) := by decide +kernel
theorem dX3_isBright_21 : decode cX3_isBright 21 = .ok (.iconst 0, 1) := by decide +kernel
theorem dX3_isBright_22 : decode cX3_isBright 22 = .ok (.ireturn, 1) := by decide +kernel
theorem dX3_expectsOf_0 : decode cX3_expectsOf 0 = .ok (.aload_n 0, 1) := by decide +kernel
theorem dX3_expectsOf_1 : decode cX3_expectsOf 1 = .ok (.iload_n 1, 1) := by decide +kernel
theorem dX3_expectsOf_2 : decode cX3_expectsOf 2 = .ok (.invokevirtual 51, 3) := by decide +kernel
theorem dX3_expectsOf_5 : decode cX3_expectsOf 5 = .ok (.ifCond .eq 12, 3) := by decide +kernel
theorem dX3_expectsOf_8 : decode cX3_expectsOf 8 = .ok (.aload_n 0, 1) := by decide +kernel
theorem dX3_expectsOf_9 : decode cX3_expectsOf 9 = .ok (.getfield 9, 3) := by decide +kernel
theorem dX3_expectsOf_12 : decode cX3_expectsOf 12 = .ok (.iload_n 1, 1) := by decide +kernel
theorem dX3_expectsOf_13 : decode cX3_expectsOf 13 = .ok (.iaload, 1) := by decide +kernel
theorem dX3_expectsOf_14 : decode cX3_expectsOf 14 = .ok (.goto 4, 3) := by decide +kernel
theorem dX3_expectsOf_17 : decode cX3_expectsOf 17 = .ok (.iconst 0, 1) := by decide +kernel
theorem dX3_expectsOf_18 : decode cX3_expectsOf 18 = .ok (.ireturn, 1) := by decide +kernel
theorem dX3_seen_0 : decode cX3_seen 0 = .ok (.aload_n 0, 1) := by decide +kernel
theorem dX3_seen_1 : decode cX3_seen 1 = .ok (.iload_n 1, 1) := by decide +kernel
theorem dX3_seen_2 : decode cX3_seen 2 = .ok (.iload_n 2, 1) := by decide +kernel
theorem dX3_seen_3 : decode cX3_seen 3 = .ok (.invokevirtual 58, 3) := by decide +kernel
theorem dX3_seen_6 : decode cX3_seen 6 = .ok (.ifCond .ne 5, 3) := by decide +kernel
theorem dX3_seen_9 : decode cX3_seen 9 = .ok (.iconst 0, 1) := by decide +kernel
theorem dX3_seen_10 : decode cX3_seen 10 = .ok (.ireturn, 1) := by decide +kernel
theorem dX3_seen_11 : decode cX3_seen 11 = .ok (.iload 5, 2) := by decide +kernel
theorem dX3_seen_13 : decode cX3_seen 13 = .ok (.ifCond .eq 12, 3) := by decide +kernel
theorem dX3_seen_16 : decode cX3_seen 16 = .ok (.aload_n 0, 1) := by decide +kernel
theorem dX3_seen_17 : decode cX3_seen 17 = .ok (.getfield 21, 3) := by decide +kernel
theorem dX3_seen_20 : decode cX3_seen 20 = .ok (.iload_n 2, 1) := by decide +kernel
theorem dX3_seen_21 : decode cX3_seen 21 = .ok (.iaload, 1) := by decide +kernel
theorem dX3_seen_22 : decode cX3_seen 22 = .ok (.goto 4, 3) := by decide +kernel
theorem dX3_seen_25 : decode cX3_seen 25 = .ok (.iconst 0, 1) := by decide +kernel
theorem dX3_seen_26 : decode cX3_seen 26 = .ok (.istore 7, 2) := by decide +kernel
theorem dX3_seen_28 : decode cX3_seen 28 = .ok (.iload 6, 2) := by decide +kernel
theorem dX3_seen_30 : decode cX3_seen 30 = .ok (.ifCond .eq 33, 3) := by decide +kernel
theorem dX3_seen_33 : decode cX3_seen 33 = .ok (.iload 7, 2) := by decide +kernel
theorem dX3_seen_35 : decode cX3_seen 35 = .ok (.iload_n 3, 1) := by decide +kernel
theorem dX3_seen_36 : decode cX3_seen 36 = .ok (.iadd, 1) := by decide +kernel
theorem dX3_seen_37 : decode cX3_seen 37 = .ok (.istore 7, 2) := by decide +kernel
theorem dX3_seen_39 : decode cX3_seen 39 = .ok (.iload 7, 2) := by decide +kernel
theorem dX3_seen_41 : decode cX3_seen 41 = .ok (.aload_n 0, 1) := by decide +kernel
theorem dX3_seen_42 : decode cX3_seen 42 = .ok (.getfield 18, 3) := by decide +kernel
theorem dX3_seen_45 : decode cX3_seen 45 = .ok (.iload_n 1, 1) := by decide +kernel
theorem dX3_seen_46 : decode cX3_seen 46 = .ok (.iaload, 1) := by decide +kernel
theorem dX3_seen_47 : decode cX3_seen 47 = .ok (.iconst 1, 1) := by decide +kernel
theorem dX3_seen_48 : decode cX3_seen 48 = .ok (.if_icmp .ne 11, 3) := by decide +kernel
theorem dX3_seen_51 : decode cX3_seen 51 = .ok (.iload_n 3, 1) := by decide +kernel
theorem dX3_seen_52 : decode cX3_seen 52 = .ok (.ifCond .le 7, 3) := by decide +kernel
theorem dX3_seen_55 : decode cX3_seen 55 = .ok (.iconst 2, 1) := by decide +kernel
theorem dX3_seen_56 : decode cX3_seen 56 = .ok (.goto 4, 3) := by decide +kernel
theorem dX3_seen_59 : decode cX3_seen 59 = .ok (.iconst 0, 1) := by decide +kernel
theorem dX3_seen_60 : decode cX3_seen 60 = .ok (.iadd, 1) := by decide +kernel
theorem dX3_seen_61 : decode cX3_seen 61 = .ok (.istore 7, 2) := by decide +kernel
theorem dX3_seen_63 : decode cX3_seen 63 = .ok (.aload_n 0, 1) := by decide +kernel
theorem dX3_seen_64 : decode cX3_seen 64 = .ok (.getfield 18, 3) := by decide +kernel
theorem dX3_seen_67 : decode cX3_seen 67 = .ok (.iload_n 1, 1) := by decide +kernel
theorem dX3_seen_68 : decode cX3_seen 68 = .ok (.iaload, 1) := by decide +kernel
theorem dX3_seen_69 : decode cX3_seen 69 = .ok (.iconst 2, 1) := by decide +kernel
theorem dX3_seen_70 : decode cX3_seen 70 = .ok (.if_icmp .ne 12, 3) := by decide +kernel
theorem dX3_seen_73 : decode cX3_seen 73 = .ok (.iload 7, 2) := by decide +kernel
theorem dX3_seen_75 : decode cX3_seen 75 = .ok (.iload 4, 2) := by decide +kernel
theorem dX3_seen_77 : decode cX3_seen 77 = .ok (.iconst 2, 1) := by decide +kernel
theorem dX3_seen_78 : decode cX3_seen 78 = .ok (.idiv, 1) := by decide +kernel
theorem dX3_seen_79 : decode cX3_seen 79 = .ok (.isub, 1) := by decide +kernel
theorem dX3_seen_80 : decode cX3_seen 80 = .ok (.istore 7, 2) := by decide +kernel
theorem dX3_seen_82 : decode cX3_seen 82 = .ok (.iconst 0, 1) := by decide +kernel
theorem dX3_seen_83 : decode cX3_seen 83 = .ok (.iload 7, 2) := by decide +kernel
theorem dX3_seen_85 : decode cX3_seen 85 = .ok (.invokestatic 62, 3) := by decide +kernel
theorem dX3_seen_88 : decode cX3_seen 88 = .ok (.ireturn, 1) := by decide +kernel
theorem dX3_saysYes_0 : decode cX3_saysYes 0 = .ok (.aload_n 0, 1) := by decide +kernel
theorem dX3_saysYes_1 : decode cX3_saysYes 1 = .ok (.iload_n 1, 1) := by decide +kernel
theorem dX3_saysYes_2 : decode cX3_saysYes 2 = .ok (.invokevirtual 51, 3) := by decide +kernel
theorem dX3_saysYes_5 : decode cX3_saysYes 5 = .ok (.ifCond .eq 27, 3) := by decide +kernel
theorem dX3_saysYes_8 : decode cX3_saysYes 8 = .ok (.aload_n 0, 1) := by decide +kernel
theorem dX3_saysYes_9 : decode cX3_saysYes 9 = .ok (.getfield 18, 3) := by decide +kernel
theorem dX3_saysYes_12 : decode cX3_saysYes 12 = .ok (.iload_n 1, 1) := by decide +kernel
theorem dX3_saysYes_13 : decode cX3_saysYes 13 = .ok (.iaload, 1) := by decide +kernel
theorem dX3_saysYes_14 : decode cX3_saysYes 14 = .ok (.iconst 3, 1) := by decide +kernel
theorem dX3_saysYes_15 : decode cX3_saysYes 15 = .ok (.if_icmp .eq 13, 3) := by decide +kernel
theorem dX3_saysYes_18 : decode cX3_saysYes 18 = .ok (.iload_n 2, 1) := by decide +kernel
theorem dX3_saysYes_19 : decode cX3_saysYes 19 = .ok (.aload_n 0, 1) := by decide +kernel
theorem dX3_saysYes_20 : decode cX3_saysYes 20 = .ok (.getfield 15, 3) := by decide +kernel
theorem dX3_saysYes_23 : decode cX3_saysYes 23 = .ok (.iload_n 1, 1) := by decide +kernel
theorem dX3_saysYes_24 : decode cX3_saysYes 24 = .ok (.iaload, 1) := by decide +kernel
theorem dX3_saysYes_25 : decode cX3_saysYes 25 = .ok (.if_icmp .lt 7, 3) := by decide +kernel
theorem dX3_saysYes_28 : decode cX3_saysYes 28 = .ok (.iconst 1, 1) := by decide +kernel
theorem dX3_saysYes_29 : decode cX3_saysYes 29 = .ok (.goto 4, 3) := by decide +kernel
theorem dX3_saysYes_32 : decode cX3_saysYes 32 = .ok (.iconst 0, 1) := by decide +kernel
theorem dX3_saysYes_33 : decode cX3_saysYes 33 = .ok (.ireturn, 1) := by decide +kernel
theorem dX4_init_0 : decode cX4_init 0 = .ok (.aload_n 0, 1) := by decide +kernel
theorem dX4_init_1 : decode cX4_init 1 = .ok (.invokespecial 3, 3) := by decide +kernel
theorem dX4_init_4 : decode cX4_init 4 = .ok (.aload_n 0, 1) := by decide +kernel
theorem dX4_init_5 : decode cX4_init 5 = .ok (.bipush 36, 2) := by decide +kernel
theorem dX4_init_7 : decode cX4_init 7 = .ok (.newarray .int, 2) := by decide +kernel
theorem dX4_init_9 : decode cX4_init 9 = .ok (.putfield 9, 3) := by decide +kernel
theorem dX4_init_12 : decode cX4_init 12 = .ok (.return_, 1) := by decide +kernel
theorem dX4_append_0 : decode cX4_append 0 = .ok (.aload_n 0, 1) := by decide +kernel
theorem dX4_append_1 : decode cX4_append 1 = .ok (.getfield 15, 3) := by decide +kernel
theorem dX4_append_4 : decode cX4_append 4 = .ok (.ifCond .lt 12, 3) := by decide +kernel
theorem dX4_append_7 : decode cX4_append 7 = .ok (.aload_n 0, 1) := by decide +kernel
theorem dX4_append_8 : decode cX4_append 8 = .ok (.getfield 15, 3) := by decide +kernel
theorem dX4_append_11 : decode cX4_append 11 = .ok (.bipush 36, 2) := by decide +kernel
theorem dX4_append_13 : decode cX4_append 13 = .ok (.if_icmp .lt 5, 3) := by decide +kernel
theorem dX4_append_16 : decode cX4_append 16 = .ok (.iconst 0, 1) := by decide +kernel
theorem dX4_append_17 : decode cX4_append 17 = .ok (.ireturn, 1) := by decide +kernel
theorem dX4_append_18 : decode cX4_append 18 = .ok (.aload_n 0, 1) := by decide +kernel
theorem dX4_append_19 : decode cX4_append 19 = .ok (.getfield 9, 3) := by decide +kernel
theorem dX4_append_22 : decode cX4_append 22 = .ok (.aload_n 0, 1) := by decide +kernel
theorem dX4_append_23 : decode cX4_append 23 = .ok (.getfield 15, 3) := by decide +kernel
theorem dX4_append_26 : decode cX4_append 26 = .ok (.iload_n 1, 1) := by decide +kernel
theorem dX4_append_27 : decode cX4_append 27 = .ok (.iastore, 1) := by decide +kernel
theorem dX4_append_28 : decode cX4_append 28 = .ok (.aload_n 0, 1) := by decide +kernel
theorem dX4_append_29 : decode cX4_append 29 = .ok (.dup, 1) := by decide +kernel
theorem dX4_append_30 : decode cX4_append 30 = .ok (.getfield 15, 3) := by decide +kernel
theorem dX4_append_33 : decode cX4_append 33 = .ok (.iconst 1, 1) := by decide +kernel
theorem dX4_append_34 : decode cX4_append 34 = .ok (.iadd, 1) := by decide +kernel
theorem dX4_append_35 : decode cX4_append 35 = .ok (.putfield 15, 3) := by decide +kernel
theorem dX4_append_38 : decode cX4_append 38 = .ok (.iconst 1, 1) := by decide +kernel
theorem dX4_append_39 : decode cX4_append 39 = .ok (.ireturn, 1) := by decide +kernel
theorem dX4_letterAt_0 : decode cX4_letterAt 0 = .ok (.iload_n 1, 1) := by decide +kernel
theorem dX4_letterAt_1 : decode cX4_letterAt 1 = .ok (.ifCond .lt 26, 3) := by decide +kernel
theorem dX4_letterAt_4 : decode cX4_letterAt 4 = .ok (.iload_n 1, 1) := by decide +kernel
theorem dX4_letterAt_5 : decode cX4_letterAt 5 = .ok (.aload_n 0, 1) := by decide +kernel
theorem dX4_letterAt_6 : decode cX4_letterAt 6 = .ok (.getfield 15, 3) := by decide +kernel
theorem dX4_letterAt_9 : decode cX4_letterAt 9 = .ok (.if_icmp .ge 18, 3) := by decide +kernel
theorem dX4_letterAt_12 : decode cX4_letterAt 12 = .ok (.iload_n 1, 1) := by decide +kernel
theorem dX4_letterAt_13 : decode cX4_letterAt 13 = .ok (.bipush 36, 2) := by decide +kernel
theorem dX4_letterAt_15 : decode cX4_letterAt 15 = .ok (.if_icmp .ge 12, 3) := by decide +kernel
theorem dX4_letterAt_18 : decode cX4_letterAt 18 = .ok (.aload_n 0, 1) := by decide +kernel
theorem dX4_letterAt_19 : decode cX4_letterAt 19 = .ok (.getfield 9, 3) := by decide +kernel
theorem dX4_letterAt_22 : decode cX4_letterAt 22 = .ok (.iload_n 1, 1) := by decide +kernel
theorem dX4_letterAt_23 : decode cX4_letterAt 23 = .ok (.iaload, 1) := by decide +kernel
theorem dX4_letterAt_24 : decode cX4_letterAt 24 = .ok (.goto 4, 3) := by decide +kernel
theorem dX4_letterAt_27 : decode cX4_letterAt 27 = .ok (.iconst 0, 1) := by decide +kernel
theorem dX4_letterAt_28 : decode cX4_letterAt 28 = .ok (.ireturn, 1) := by decide +kernel
theorem dX4_figureAt_0 : decode cX4_figureAt 0 = .ok (.aload_n 0, 1) := by decide +kernel
theorem dX4_figureAt_1 : decode cX4_figureAt 1 = .ok (.iload_n 1, 1) := by decide +kernel
theorem dX4_figureAt_2 : decode cX4_figureAt 2 = .ok (.invokevirtual 19, 3) := by decide +kernel
theorem dX4_figureAt_5 : decode cX4_figureAt 5 = .ok (.bipush 48, 2) := by decide +kernel
theorem dX4_figureAt_7 : decode cX4_figureAt 7 = .ok (.isub, 1) := by decide +kernel
theorem dX4_figureAt_8 : decode cX4_figureAt 8 = .ok (.ireturn, 1) := by decide +kernel
theorem dX4_firstFault_0 : decode cX4_firstFault 0 = .ok (.aload_n 0, 1) := by decide +kernel
theorem dX4_firstFault_1 : decode cX4_firstFault 1 = .ok (.iconst 0, 1) := by decide +kernel
theorem dX4_firstFault_2 : decode cX4_firstFault 2 = .ok (.invokevirtual 19, 3) := by decide +kernel
theorem dX4_firstFault_5 : decode cX4_firstFault 5 = .ok (.bipush 69, 2) := by decide +kernel
theorem dX4_firstFault_7 : decode cX4_firstFault 7 = .ok (.if_icmp .eq 5, 3) := by decide +kernel
theorem dX4_firstFault_10 : decode cX4_firstFault 10 = .ok (.iconst 0, 1) := by decide +kernel
theorem dX4_firstFault_11 : decode cX4_firstFault 11 = .ok (.ireturn, 1) := by decide +kernel
theorem dX4_firstFault_12 : decode cX4_firstFault 12 = .ok (.iconst 0, 1) := by decide +kernel
theorem dX4_firstFault_13 : decode cX4_firstFault 13 = .ok (.istore_n 1, 1) := by decide +kernel
theorem dX4_firstFault_14 : decode cX4_firstFault 14 = .ok (.iconst 0, 1) := by decide +kernel
theorem dX4_firstFault_15 : decode cX4_firstFault 15 = .ok (.istore_n 2, 1) := by decide +kernel
theorem dX4_firstFault_16 : decode cX4_firstFault 16 = .ok (.iconst 1, 1) := by decide +kernel
theorem dX4_firstFault_17 : decode cX4_firstFault 17 = .ok (.istore_n 3, 1) := by decide +kernel
theorem dX4_firstFault_18 : decode cX4_firstFault 18 = .ok (.iload_n 3, 1) := by decide +kernel
theorem dX4_firstFault_19 : decode cX4_firstFault 19 = .ok (.aload_n 0, 1) := by decide +kernel
theorem dX4_firstFault_20 : decode cX4_firstFault 20 = .ok (.getfield 15, 3) := by decide +kernel
theorem dX4_firstFault_23 : decode cX4_firstFault 23 = .ok (.if_icmp .ge 139, 3) := by decide +kernel
theorem dX4_firstFault_26 : decode cX4_firstFault 26 = .ok (.aload_n 0, 1) := by decide +kernel
theorem dX4_firstFault_27 : decode cX4_firstFault 27 = .ok (.iload_n 3, 1) := by decide +kernel
theorem dX4_firstFault_28 : decode cX4_firstFault 28 = .ok (.invokevirtual 19, 3) := by decide +kernel
theorem dX4_firstFault_31 : decode cX4_firstFault 31 = .ok (.bipush 82, 2) := by decide +kernel
theorem dX4_firstFault_33 : decode cX4_firstFault 33 = .ok (.if_icmp .ne 12, 3) := by decide +kernel
theorem dX4_firstFault_36 : decode cX4_firstFault 36 = .ok (.iload_n 1, 1) := by decide +kernel
theorem dX4_firstFault_37 : decode cX4_firstFault 37 = .ok (.iconst 5, 1) := by decide +kernel
theorem dX4_firstFault_38 : decode cX4_firstFault 38 = .ok (.if_icmp .ge 7, 3) := by decide +kernel
theorem dX4_firstFault_41 : decode cX4_firstFault 41 = .ok (.iconst 1, 1) := by decide +kernel
theorem dX4_firstFault_42 : decode cX4_firstFault 42 = .ok (.goto 4, 3) := by decide +kernel
theorem dX4_firstFault_45 : decode cX4_firstFault 45 = .ok (.iconst 0, 1) := by decide +kernel
theorem dX4_firstFault_46 : decode cX4_firstFault 46 = .ok (.istore 4, 2) := by decide +kernel
theorem dX4_firstFault_48 : decode cX4_firstFault 48 = .ok (.aload_n 0, 1) := by decide +kernel
theorem dX4_firstFault_49 : decode cX4_firstFault 49 = .ok (.iload_n 3, 1) := by decide +kernel
theorem dX4_firstFault_50 : decode cX4_firstFault 50 = .ok (.invokevirtual 19, 3) := by decide +kernel
theorem dX4_firstFault_53 : decode cX4_firstFault 53 = .ok (.bipush 83, 2) := by decide +kernel
theorem dX4_firstFault_55 : decode cX4_firstFault 55 = .ok (.if_icmp .ne 12, 3) := by decide +kernel
theorem dX4_firstFault_58 : decode cX4_firstFault 58 = .ok (.iload_n 2, 1) := by decide +kernel
theorem dX4_firstFault_59 : decode cX4_firstFault 59 = .ok (.iconst 4, 1) := by decide +kernel
theorem dX4_firstFault_60 : decode cX4_firstFault 60 = .ok (.if_icmp .ge 7, 3) := by decide +kernel
theorem dX4_firstFault_63 : decode cX4_firstFault 63 = .ok (.iconst 1, 1) := by decide +kernel
theorem dX4_firstFault_64 : decode cX4_firstFault 64 = .ok (.goto 4, 3) := by decide +kernel
theorem dX4_firstFault_67 : decode cX4_firstFault 67 = .ok (.iconst 0, 1) := by decide +kernel
theorem dX4_firstFault_68 : decode cX4_firstFault 68 = .ok (.istore 5, 2) := by decide +kernel
theorem dX4_firstFault_70 : decode cX4_firstFault 70 = .ok (.iload 4, 2) := by decide +kernel
theorem dX4_firstFault_72 : decode cX4_firstFault 72 = .ok (.ifCond .ne 10, 3) := by decide +kernel
theorem dX4_firstFault_75 : decode cX4_firstFault 75 = .ok (.iload 5, 2) := by decide +kernel
theorem dX4_firstFault_77 : decode cX4_firstFault 77 = .ok (.ifCond .ne 5, 3) := by decide +kernel
theorem dX4_firstFault_80 : decode cX4_firstFault 80 = .ok (.iload_n 3, 1) := by decide +kernel
theorem dX4_firstFault_81 : decode cX4_firstFault 81 = .ok (.ireturn, 1) := by decide +kernel
theorem dX4_firstFault_82 : decode cX4_firstFault 82 = .ok (.iload 4, 2) := by decide +kernel
theorem dX4_firstFault_84 : decode cX4_firstFault 84 = .ok (.ifCond .eq 13, 3) := by decide +kernel
theorem dX4_firstFault_87 : decode cX4_firstFault 87 = .ok (.aload_n 0, 1) := by decide +kernel
theorem dX4_firstFault_88 : decode cX4_firstFault 88 = .ok (.iload_n 3, 1) := by decide +kernel
theorem dX4_firstFault_89 : decode cX4_firstFault 89 = .ok (.iconst 1, 1) := by decide +kernel
theorem dX4_firstFault_90 : decode cX4_firstFault 90 = .ok (.iadd, 1) := by decide +kernel
theorem dX4_firstFault_91 : decode cX4_firstFault 91 = .ok (.invokevirtual 23, 3) := by decide +kernel
theorem dX4_firstFault_94 : decode cX4_firstFault 94 = .ok (.goto 14, 3) := by decide +kernel
theorem dX4_firstFault_97 : decode cX4_firstFault 97 = .ok (.aload_n 0, 1) := by decide +kernel
theorem dX4_firstFault_98 : decode cX4_firstFault 98 = .ok (.iload_n 3, 1) := by decide +kernel
theorem dX4_firstFault_99 : decode cX4_firstFault 99 = .ok (.iconst 1, 1) := by decide +kernel
theorem dX4_firstFault_100 : decode cX4_firstFault 100 = .ok (.iadd, 1) := by decide +kernel
theorem dX4_firstFault_101 : decode cX4_firstFault 101 = .ok (.bipush 48, 2) := by decide +kernel
theorem dX4_firstFault_103 : decode cX4_firstFault 103 = .ok (.bipush 57, 2) := by decide +kernel
theorem dX4_firstFault_105 : decode cX4_firstFault 105 = .ok (.invokevirtual 26, 3) := by decide +kernel
theorem dX4_firstFault_108 : decode cX4_firstFault 108 = .ok (.istore 6, 2) := by decide +kernel
theorem dX4_firstFault_110 : decode cX4_firstFault 110 = .ok (.iload 6, 2) := by decide +kernel
theorem dX4_firstFault_112 : decode cX4_firstFault 112 = .ok (.bipush (-9), 2) := by decide +kernel
theorem dX4_firstFault_114 : decode cX4_firstFault 114 = .ok (.if_icmp .eq 6, 3) := by decide +kernel
theorem dX4_firstFault_117 : decode cX4_firstFault 117 = .ok (.iload 6, 2) := by decide +kernel
theorem dX4_firstFault_119 : decode cX4_firstFault 119 = .ok (.ireturn, 1) := by decide +kernel
theorem dX4_firstFault_120 : decode cX4_firstFault 120 = .ok (.iload_n 1, 1) := by decide +kernel
theorem dX4_firstFault_121 : decode cX4_firstFault 121 = .ok (.iload 4, 2) := by decide +kernel
theorem dX4_firstFault_123 : decode cX4_firstFault 123 = .ok (.ifCond .eq 7, 3) := by decide +kernel
theorem dX4_firstFault_126 : decode cX4_firstFault 126 = .ok (.iconst 1, 1) := by decide +kernel
theorem dX4_firstFault_127 : decode cX4_firstFault 127 = .ok (.goto 4, 3) := by decide +kernel
theorem dX4_firstFault_130 : decode cX4_firstFault 130 = .ok (.iconst 0, 1) := by decide +kernel
theorem dX4_firstFault_131 : decode cX4_firstFault 131 = .ok (.iadd, 1) := by decide +kernel
theorem dX4_firstFault_132 : decode cX4_firstFault 132 = .ok (.istore_n 1, 1) := by decide +kernel
theorem dX4_firstFault_133 : decode cX4_firstFault 133 = .ok (.iload_n 2, 1) := by decide +kernel
theorem dX4_firstFault_134 : decode cX4_firstFault 134 = .ok (.iload 5, 2) := by decide +kernel
theorem dX4_firstFault_136 : decode cX4_firstFault 136 = .ok (.ifCond .eq 7, 3) := by decide +kernel
theorem dX4_firstFault_139 : decode cX4_firstFault 139 = .ok (.iconst 1, 1) := by decide +kernel
theorem dX4_firstFault_140 : decode cX4_firstFault 140 = .ok (.goto 4, 3) := by decide +kernel
theorem dX4_firstFault_143 : decode cX4_firstFault 143 = .ok (.iconst 0, 1) := by decide +kernel
theorem dX4_firstFault_144 : decode cX4_firstFault 144 = .ok (.iadd, 1) := by decide +kernel
theorem dX4_firstFault_145 : decode cX4_firstFault 145 = .ok (.istore_n 2, 1) := by decide +kernel
theorem dX4_firstFault_146 : decode cX4_firstFault 146 = .ok (.iload_n 3, 1) := by decide +kernel
theorem dX4_firstFault_147 : decode cX4_firstFault 147 = .ok (.iload 4, 2) := by decide +kernel
theorem dX4_firstFault_149 : decode cX4_firstFault 149 = .ok (.ifCond .eq 7, 3) := by decide +kernel
theorem dX4_firstFault_152 : decode cX4_firstFault 152 = .ok (.iconst 4, 1) := by decide +kernel
theorem dX4_firstFault_153 : decode cX4_firstFault 153 = .ok (.goto 4, 3) := by decide +kernel
theorem dX4_firstFault_156 : decode cX4_firstFault 156 = .ok (.iconst 2, 1) := by decide +kernel
theorem dX4_firstFault_157 : decode cX4_firstFault 157 = .ok (.iadd, 1) := by decide +kernel
theorem dX4_firstFault_158 : decode cX4_firstFault 158 = .ok (.istore_n 3, 1) := by decide +kernel
theorem dX4_firstFault_159 : decode cX4_firstFault 159 = .ok (.goto (-141), 3) := by decide +kernel
theorem dX4_firstFault_162 : decode cX4_firstFault 162 = .ok (.bipush (-9), 2) := by decide +kernel
theorem dX4_firstFault_164 : decode cX4_firstFault 164 = .ok (.ireturn, 1) := by decide +kernel
theorem dX4_readerFault_0 : decode cX4_readerFault 0 = .ok (.aload_n 0, 1) := by decide +kernel
theorem dX4_readerFault_1 : decode cX4_readerFault 1 = .ok (.iload_n 1, 1) := by decide +kernel
theorem dX4_readerFault_2 : decode cX4_readerFault 2 = .ok (.bipush 48, 2) := by decide +kernel
theorem dX4_readerFault_4 : decode cX4_readerFault 4 = .ok (.bipush 57, 2) := by decide +kernel
theorem dX4_readerFault_6 : decode cX4_readerFault 6 = .ok (.invokevirtual 26, 3) := by decide +kernel
theorem dX4_readerFault_9 : decode cX4_readerFault 9 = .ok (.istore_n 2, 1) := by decide +kernel
theorem dX4_readerFault_10 : decode cX4_readerFault 10 = .ok (.iload_n 2, 1) := by decide +kernel
theorem dX4_readerFault_11 : decode cX4_readerFault 11 = .ok (.bipush (-9), 2) := by decide +kernel
theorem dX4_readerFault_13 : decode cX4_readerFault 13 = .ok (.if_icmp .eq 5, 3) := by decide +kernel
theorem dX4_readerFault_16 : decode cX4_readerFault 16 = .ok (.iload_n 2, 1) := by decide +kernel
theorem dX4_readerFault_17 : decode cX4_readerFault 17 = .ok (.ireturn, 1) := by decide +kernel
theorem dX4_readerFault_18 : decode cX4_readerFault 18 = .ok (.aload_n 0, 1) := by decide +kernel
theorem dX4_readerFault_19 : decode cX4_readerFault 19 = .ok (.iload_n 1, 1) := by decide +kernel
theorem dX4_readerFault_20 : decode cX4_readerFault 20 = .ok (.iconst 1, 1) := by decide +kernel
theorem dX4_readerFault_21 : decode cX4_readerFault 21 = .ok (.iadd, 1) := by decide +kernel
theorem dX4_readerFault_22 : decode cX4_readerFault 22 = .ok (.bipush 49, 2) := by decide +kernel
theorem dX4_readerFault_24 : decode cX4_readerFault 24 = .ok (.bipush 57, 2) := by decide +kernel
theorem dX4_readerFault_26 : decode cX4_readerFault 26 = .ok (.invokevirtual 26, 3) := by decide +kernel
theorem dX4_readerFault_29 : decode cX4_readerFault 29 = .ok (.istore_n 3, 1) := by decide +kernel
theorem dX4_readerFault_30 : decode cX4_readerFault 30 = .ok (.iload_n 3, 1) := by decide +kernel
theorem dX4_readerFault_31 : decode cX4_readerFault 31 = .ok (.bipush (-9), 2) := by decide +kernel
theorem dX4_readerFault_33 : decode cX4_readerFault 33 = .ok (.if_icmp .eq 7, 3) := by decide +kernel
theorem dX4_readerFault_36 : decode cX4_readerFault 36 = .ok (.iload_n 3, 1) := by decide +kernel
theorem dX4_readerFault_37 : decode cX4_readerFault 37 = .ok (.goto 14, 3) := by decide +kernel
theorem dX4_readerFault_40 : decode cX4_readerFault 40 = .ok (.aload_n 0, 1) := by decide +kernel
theorem dX4_readerFault_41 : decode cX4_readerFault 41 = .ok (.iload_n 1, 1) := by decide +kernel
theorem dX4_readerFault_42 : decode cX4_readerFault 42 = .ok (.iconst 2, 1) := by decide +kernel
theorem dX4_readerFault_43 : decode cX4_readerFault 43 = .ok (.iadd, 1) := by decide +kernel
theorem dX4_readerFault_44 : decode cX4_readerFault 44 = .ok (.bipush 48, 2) := by decide +kernel
theorem dX4_readerFault_46 : decode cX4_readerFault 46 = .ok (.bipush 51, 2) := by decide +kernel
theorem dX4_readerFault_48 : decode cX4_readerFault 48 = .ok (.invokevirtual 26, 3) := by decide +kernel
theorem dX4_readerFault_51 : decode cX4_readerFault 51 = .ok (.ireturn, 1) := by decide +kernel
theorem dX4_figureFault_0 : decode cX4_figureFault 0 = .ok (.aload_n 0, 1) := by decide +kernel
theorem dX4_figureFault_1 : decode cX4_figureFault 1 = .ok (.iload_n 1, 1) := by decide +kernel
theorem dX4_figureFault_2 : decode cX4_figureFault 2 = .ok (.invokevirtual 19, 3) := by decide +kernel
theorem dX4_figureFault_5 : decode cX4_figureFault 5 = .ok (.iload_n 2, 1) := by decide +kernel
theorem dX4_figureFault_6 : decode cX4_figureFault 6 = .ok (.if_icmp .lt 16, 3) := by decide +kernel
theorem dX4_figureFault_9 : decode cX4_figureFault 9 = .ok (.aload_n 0, 1) := by decide +kernel
theorem dX4_figureFault_10 : decode cX4_figureFault 10 = .ok (.iload_n 1, 1) := by decide +kernel
theorem dX4_figureFault_11 : decode cX4_figureFault 11 = .ok (.invokevirtual 19, 3) := by decide +kernel
theorem dX4_figureFault_14 : decode cX4_figureFault 14 = .ok (.iload_n 3, 1) := by decide +kernel
theorem dX4_figureFault_15 : decode cX4_figureFault 15 = .ok (.if_icmp .gt 7, 3) := by decide +kernel
theorem dX4_figureFault_18 : decode cX4_figureFault 18 = .ok (.iconst 1, 1) := by decide +kernel
theorem dX4_figureFault_19 : decode cX4_figureFault 19 = .ok (.goto 4, 3) := by decide +kernel
theorem dX4_figureFault_22 : decode cX4_figureFault 22 = .ok (.iconst 0, 1) := by decide +kernel
theorem dX4_figureFault_23 : decode cX4_figureFault 23 = .ok (.istore 4, 2) := by decide +kernel
theorem dX4_figureFault_25 : decode cX4_figureFault 25 = .ok (.iload 4, 2) := by decide +kernel
theorem dX4_figureFault_27 : decode cX4_figureFault 27 = .ok (.ifCond .eq 8, 3) := by decide +kernel
theorem dX4_figureFault_30 : decode cX4_figureFault 30 = .ok (.bipush (-9), 2) := by decide +kernel
theorem dX4_figureFault_32 : decode cX4_figureFault 32 = .ok (.goto 4, 3) := by decide +kernel
theorem dX4_figureFault_35 : decode cX4_figureFault 35 = .ok (.iload_n 1, 1) := by decide +kernel
theorem dX4_figureFault_36 : decode cX4_figureFault 36 = .ok (.ireturn, 1) := by decide +kernel
theorem dX5_init_0 : decode cX5_init 0 = .ok (.aload_n 0, 1) := by decide +kernel
theorem dX5_init_1 : decode cX5_init 1 = .ok (.invokespecial 1, 3) := by decide +kernel
theorem dX5_init_4 : decode cX5_init 4 = .ok (.aload_n 0, 1) := by decide +kernel
theorem dX5_init_5 : decode cX5_init 5 = .ok (.new 7, 3) := by decide +kernel
theorem dX5_init_8 : decode cX5_init 8 = .ok (.dup, 1) := by decide +kernel
theorem dX5_init_9 : decode cX5_init 9 = .ok (.invokespecial 9, 3) := by decide +kernel
theorem dX5_init_12 : decode cX5_init 12 = .ok (.putfield 10, 3) := by decide +kernel
theorem dX5_init_15 : decode cX5_init 15 = .ok (.aload_n 0, 1) := by decide +kernel
theorem dX5_init_16 : decode cX5_init 16 = .ok (.new 16, 3) := by decide +kernel
theorem dX5_init_19 : decode cX5_init 19 = .ok (.dup, 1) := by decide +kernel
theorem dX5_init_20 : decode cX5_init 20 = .ok (.invokespecial 18, 3) := by decide +kernel
theorem dX5_init_23 : decode cX5_init 23 = .ok (.putfield 19, 3) := by decide +kernel
theorem dX5_init_26 : decode cX5_init 26 = .ok (.aload_n 0, 1) := by decide +kernel
theorem dX5_init_27 : decode cX5_init 27 = .ok (.new 23, 3) := by decide +kernel
theorem dX5_init_30 : decode cX5_init 30 = .ok (.dup, 1) := by decide +kernel
theorem dX5_init_31 : decode cX5_init 31 = .ok (.invokespecial 25, 3) := by decide +kernel
theorem dX5_init_34 : decode cX5_init 34 = .ok (.putfield 26, 3) := by decide +kernel
theorem dX5_init_37 : decode cX5_init 37 = .ok (.aload_n 0, 1) := by decide +kernel
theorem dX5_init_38 : decode cX5_init 38 = .ok (.new 30, 3) := by decide +kernel
theorem dX5_init_41 : decode cX5_init 41 = .ok (.dup, 1) := by decide +kernel
theorem dX5_init_42 : decode cX5_init 42 = .ok (.invokespecial 32, 3) := by decide +kernel
theorem dX5_init_45 : decode cX5_init 45 = .ok (.putfield 33, 3) := by decide +kernel
theorem dX5_init_48 : decode cX5_init 48 = .ok (.aload_n 0, 1) := by decide +kernel
theorem dX5_init_49 : decode cX5_init 49 = .ok (.new 37, 3) := by decide +kernel
theorem dX5_init_52 : decode cX5_init 52 = .ok (.dup, 1) := by decide +kernel
theorem dX5_init_53 : decode cX5_init 53 = .ok (.invokespecial 39, 3) := by decide +kernel
theorem dX5_init_56 : decode cX5_init 56 = .ok (.putfield 40, 3) := by decide +kernel
theorem dX5_init_59 : decode cX5_init 59 = .ok (.aload_n 0, 1) := by decide +kernel
theorem dX5_init_60 : decode cX5_init 60 = .ok (.iconst 2, 1) := by decide +kernel
theorem dX5_init_61 : decode cX5_init 61 = .ok (.anewarray 23, 3) := by decide +kernel
theorem dX5_init_64 : decode cX5_init 64 = .ok (.putfield 44, 3) := by decide +kernel
theorem dX5_init_67 : decode cX5_init 67 = .ok (.iconst 0, 1) := by decide +kernel
theorem dX5_init_68 : decode cX5_init 68 = .ok (.istore_n 1, 1) := by decide +kernel
theorem dX5_init_69 : decode cX5_init 69 = .ok (.iload_n 1, 1) := by decide +kernel
theorem dX5_init_70 : decode cX5_init 70 = .ok (.iconst 2, 1) := by decide +kernel
theorem dX5_init_71 : decode cX5_init 71 = .ok (.if_icmp .ge 22, 3) := by decide +kernel
theorem dX5_init_74 : decode cX5_init 74 = .ok (.aload_n 0, 1) := by decide +kernel
theorem dX5_init_75 : decode cX5_init 75 = .ok (.getfield 44, 3) := by decide +kernel
theorem dX5_init_78 : decode cX5_init 78 = .ok (.iload_n 1, 1) := by decide +kernel
theorem dX5_init_79 : decode cX5_init 79 = .ok (.new 23, 3) := by decide +kernel
theorem dX5_init_82 : decode cX5_init 82 = .ok (.dup, 1) := by decide +kernel
theorem dX5_init_83 : decode cX5_init 83 = .ok (.invokespecial 25, 3) := by decide +kernel
theorem dX5_init_86 : decode cX5_init 86 = .ok (.aastore, 1) := by decide +kernel
theorem dX5_init_87 : decode cX5_init 87 = .ok (.iinc 1 1, 3) := by decide +kernel
theorem dX5_init_90 : decode cX5_init 90 = .ok (.goto (-21), 3) := by decide +kernel
theorem dX5_init_93 : decode cX5_init 93 = .ok (.aload_n 0, 1) := by decide +kernel
theorem dX5_init_94 : decode cX5_init 94 = .ok (.iconst 2, 1) := by decide +kernel
theorem dX5_init_95 : decode cX5_init 95 = .ok (.newarray .boolean, 2) := by decide +kernel
theorem dX5_init_97 : decode cX5_init 97 = .ok (.putfield 48, 3) := by decide +kernel
theorem dX5_init_100 : decode cX5_init 100 = .ok (.aload_n 0, 1) := by decide +kernel
theorem dX5_init_101 : decode cX5_init 101 = .ok (.new 23, 3) := by decide +kernel
theorem dX5_init_104 : decode cX5_init 104 = .ok (.dup, 1) := by decide +kernel
theorem dX5_init_105 : decode cX5_init 105 = .ok (.invokespecial 25, 3) := by decide +kernel
theorem dX5_init_108 : decode cX5_init 108 = .ok (.putfield 52, 3) := by decide +kernel
theorem dX5_init_111 : decode cX5_init 111 = .ok (.aload_n 0, 1) := by decide +kernel
theorem dX5_init_112 : decode cX5_init 112 = .ok (.iconst 4, 1) := by decide +kernel
theorem dX5_init_113 : decode cX5_init 113 = .ok (.newarray .int, 2) := by decide +kernel
theorem dX5_init_115 : decode cX5_init 115 = .ok (.putfield 55, 3) := by decide +kernel
theorem dX5_init_118 : decode cX5_init 118 = .ok (.aload_n 0, 1) := by decide +kernel
theorem dX5_init_119 : decode cX5_init 119 = .ok (.bipush 6, 2) := by decide +kernel
theorem dX5_init_121 : decode cX5_init 121 = .ok (.newarray .int, 2) := by decide +kernel
theorem dX5_init_123 : decode cX5_init 123 = .ok (.putfield 59, 3) := by decide +kernel
theorem dX5_init_126 : decode cX5_init 126 = .ok (.return_, 1) := by decide +kernel
theorem dX5_write_0 : decode cX5_write 0 = .ok (.iload_n 1, 1) := by decide +kernel
theorem dX5_write_1 : decode cX5_write 1 = .ok (.ifCond .lt 10, 3) := by decide +kernel
theorem dX5_write_4 : decode cX5_write 4 = .ok (.iload_n 1, 1) := by decide +kernel
theorem dX5_write_5 : decode cX5_write 5 = .ok (.sipush 255, 3) := by decide +kernel
theorem dX5_write_8 : decode cX5_write 8 = .ok (.if_icmp .le 6, 3) := by decide +kernel
theorem dX5_write_11 : decode cX5_write 11 = .ok (.bipush (-2), 2) := by decide +kernel
theorem dX5_write_13 : decode cX5_write 13 = .ok (.ireturn, 1) := by decide +kernel
theorem dX5_write_14 : decode cX5_write 14 = .ok (.aload_n 0, 1) := by decide +kernel
theorem dX5_write_15 : decode cX5_write 15 = .ok (.getfield 10, 3) := by decide +kernel
theorem dX5_write_18 : decode cX5_write 18 = .ok (.iload_n 1, 1) := by decide +kernel
theorem dX5_write_19 : decode cX5_write 19 = .ok (.invokevirtual 62, 3) := by decide +kernel
theorem dX5_write_22 : decode cX5_write 22 = .ok (.ifCond .eq 13, 3) := by decide +kernel
theorem dX5_write_25 : decode cX5_write 25 = .ok (.aload_n 0, 1) := by decide +kernel
theorem dX5_write_26 : decode cX5_write 26 = .ok (.getfield 10, 3) := by decide +kernel
theorem dX5_write_29 : decode cX5_write 29 = .ok (.getfield 66, 3) := by decide +kernel
theorem dX5_write_32 : decode cX5_write 32 = .ok (.goto 5, 3) := by decide +kernel
theorem dX5_write_35 : decode cX5_write 35 = .ok (.bipush (-4), 2) := by decide +kernel
theorem dX5_write_37 : decode cX5_write 37 = .ok (.ireturn, 1) := by decide +kernel
theorem dX5_wipe_0 : decode cX5_wipe 0 = .ok (.aload_n 0, 1) := by decide +kernel
theorem dX5_wipe_1 : decode cX5_wipe 1 = .ok (.getfield 10, 3) := by decide +kernel
theorem dX5_wipe_4 : decode cX5_wipe 4 = .ok (.getfield 66, 3) := by decide +kernel
theorem dX5_wipe_7 : decode cX5_wipe 7 = .ok (.istore_n 1, 1) := by decide +kernel
theorem dX5_wipe_8 : decode cX5_wipe 8 = .ok (.aload_n 0, 1) := by decide +kernel
theorem dX5_wipe_9 : decode cX5_wipe 9 = .ok (.getfield 10, 3) := by decide +kernel
theorem dX5_wipe_12 : decode cX5_wipe 12 = .ok (.iconst 0, 1) := by decide +kernel
theorem dX5_wipe_13 : decode cX5_wipe 13 = .ok (.putfield 66, 3) := by decide +kernel
theorem dX5_wipe_16 : decode cX5_wipe 16 = .ok (.iload_n 1, 1) := by decide +kernel
theorem dX5_wipe_17 : decode cX5_wipe 17 = .ok (.ireturn, 1) := by decide +kernel
theorem dX5_fault_0 : decode cX5_fault 0 = .ok (.aload_n 0, 1) := by decide +kernel
theorem dX5_fault_1 : decode cX5_fault 1 = .ok (.getfield 10, 3) := by decide +kernel
theorem dX5_fault_4 : decode cX5_fault 4 = .ok (.invokevirtual 70, 3) := by decide +kernel
theorem dX5_fault_7 : decode cX5_fault 7 = .ok (.ireturn, 1) := by decide +kernel
theorem dX5_room_0 : decode cX5_room 0 = .ok (.aload_n 0, 1) := by decide +kernel
theorem dX5_room_1 : decode cX5_room 1 = .ok (.getfield 10, 3) := by decide +kernel
theorem dX5_room_4 : decode cX5_room 4 = .ok (.invokevirtual 70, 3) := by decide +kernel
theorem dX5_room_7 : decode cX5_room 7 = .ok (.bipush (-9), 2) := by decide +kernel
theorem dX5_room_9 : decode cX5_room 9 = .ok (.if_icmp .eq 6, 3) := by decide +kernel
theorem dX5_room_12 : decode cX5_room 12 = .ok (.bipush (-3), 2) := by decide +kernel
theorem dX5_room_14 : decode cX5_room 14 = .ok (.ireturn, 1) := by decide +kernel
theorem dX5_room_15 : decode cX5_room 15 = .ok (.aload_n 0, 1) := by decide +kernel
theorem dX5_room_16 : decode cX5_room 16 = .ok (.getfield 19, 3) := by decide +kernel
theorem dX5_room_19 : decode cX5_room 19 = .ok (.aload_n 0, 1) := by decide +kernel
theorem dX5_room_20 : decode cX5_room 20 = .ok (.getfield 10, 3) := by decide +kernel
theorem dX5_room_23 : decode cX5_room 23 = .ok (.invokevirtual 74, 3) := by decide +kernel
theorem dX5_room_26 : decode cX5_room 26 = .ok (.aload_n 0, 1) := by decide +kernel
theorem dX5_room_27 : decode cX5_room 27 = .ok (.getfield 26, 3) := by decide +kernel
theorem dX5_room_30 : decode cX5_room 30 = .ok (.invokevirtual 78, 3) := by decide +kernel
theorem dX5_room_33 : decode cX5_room 33 = .ok (.aload_n 0, 1) := by decide +kernel
theorem dX5_room_34 : decode cX5_room 34 = .ok (.getfield 33, 3) := by decide +kernel
theorem dX5_room_37 : decode cX5_room 37 = .ok (.invokevirtual 81, 3) := by decide +kernel
theorem dX5_room_40 : decode cX5_room 40 = .ok (.iconst 0, 1) := by decide +kernel
theorem dX5_room_41 : decode cX5_room 41 = .ok (.istore_n 1, 1) := by decide +kernel
theorem dX5_room_42 : decode cX5_room 42 = .ok (.iload_n 1, 1) := by decide +kernel
theorem dX5_room_43 : decode cX5_room 43 = .ok (.iconst 2, 1) := by decide +kernel
theorem dX5_room_44 : decode cX5_room 44 = .ok (.if_icmp .ge 16, 3) := by decide +kernel
theorem dX5_room_47 : decode cX5_room 47 = .ok (.aload_n 0, 1) := by decide +kernel
theorem dX5_room_48 : decode cX5_room 48 = .ok (.getfield 48, 3) := by decide +kernel
theorem dX5_room_51 : decode cX5_room 51 = .ok (.iload_n 1, 1) := by decide +kernel
theorem dX5_room_52 : decode cX5_room 52 = .ok (.iconst 0, 1) := by decide +kernel
theorem dX5_room_53 : decode cX5_room 53 = .ok (.bastore, 1) := by decide +kernel
theorem dX5_room_54 : decode cX5_room 54 = .ok (.iinc 1 1, 3) := by decide +kernel
theorem dX5_room_57 : decode cX5_room 57 = .ok (.goto (-15), 3) := by decide +kernel
theorem dX5_room_60 : decode cX5_room 60 = .ok (.bipush 10, 2) := by decide +kernel
theorem dX5_room_62 : decode cX5_room 62 = .ok (.aload_n 0, 1) := by decide +kernel
theorem dX5_room_63 : decode cX5_room 63 = .ok (.getfield 19, 3) := by decide +kernel
theorem dX5_room_66 : decode cX5_room 66 = .ok (.getfield 82, 3) := by decide +kernel
theorem dX5_room_69 : decode cX5_room 69 = .ok (.imul, 1) := by decide +kernel
theorem dX5_room_70 : decode cX5_room 70 = .ok (.aload_n 0, 1) := by decide +kernel
theorem dX5_room_71 : decode cX5_room 71 = .ok (.getfield 19, 3) := by decide +kernel
theorem dX5_room_74 : decode cX5_room 74 = .ok (.getfield 85, 3) := by decide +kernel
theorem dX5_room_77 : decode cX5_room 77 = .ok (.iadd, 1) := by decide +kernel
theorem dX5_room_78 : decode cX5_room 78 = .ok (.ireturn, 1) := by decide +kernel
theorem dX5_reader_0 : decode cX5_reader 0 = .ok (.aload_n 0, 1) := by decide +kernel
theorem dX5_reader_1 : decode cX5_reader 1 = .ok (.getfield 19, 3) := by decide +kernel
theorem dX5_reader_4 : decode cX5_reader 4 = .ok (.iload_n 1, 1) := by decide +kernel
theorem dX5_reader_5 : decode cX5_reader 5 = .ok (.invokevirtual 88, 3) := by decide +kernel
theorem dX5_reader_8 : decode cX5_reader 8 = .ok (.ifCond .ne 5, 3) := by decide +kernel
theorem dX5_reader_11 : decode cX5_reader 11 = .ok (.iconst (-1), 1) := by decide +kernel
theorem dX5_reader_12 : decode cX5_reader 12 = .ok (.ireturn, 1) := by decide +kernel
theorem dX5_reader_13 : decode cX5_reader 13 = .ok (.iload_n 2, 1) := by decide +kernel
theorem dX5_reader_14 : decode cX5_reader 14 = .ok (.tableswitch 69 0 3 #[30, 40, 50, 60], 30) := by decide +kernel
theorem dX5_reader_44 : decode cX5_reader 44 = .ok (.aload_n 0, 1) := by decide +kernel
theorem dX5_reader_45 : decode cX5_reader 45 = .ok (.getfield 19, 3) := by decide +kernel
theorem dX5_reader_48 : decode cX5_reader 48 = .ok (.getfield 91, 3) := by decide +kernel
theorem dX5_reader_51 : decode cX5_reader 51 = .ok (.iload_n 1, 1) := by decide +kernel
theorem dX5_reader_52 : decode cX5_reader 52 = .ok (.iaload, 1) := by decide +kernel
theorem dX5_reader_53 : decode cX5_reader 53 = .ok (.ireturn, 1) := by decide +kernel
theorem dX5_reader_54 : decode cX5_reader 54 = .ok (.aload_n 0, 1) := by decide +kernel
theorem dX5_reader_55 : decode cX5_reader 55 = .ok (.getfield 19, 3) := by decide +kernel
theorem dX5_reader_58 : decode cX5_reader 58 = .ok (.getfield 94, 3) := by decide +kernel
theorem dX5_reader_61 : decode cX5_reader 61 = .ok (.iload_n 1, 1) := by decide +kernel
theorem dX5_reader_62 : decode cX5_reader 62 = .ok (.iaload, 1) := by decide +kernel
theorem dX5_reader_63 : decode cX5_reader 63 = .ok (.ireturn, 1) := by decide +kernel
theorem dX5_reader_64 : decode cX5_reader 64 = .ok (.aload_n 0, 1) := by decide +kernel
theorem dX5_reader_65 : decode cX5_reader 65 = .ok (.getfield 19, 3) := by decide +kernel
theorem dX5_reader_68 : decode cX5_reader 68 = .ok (.getfield 97, 3) := by decide +kernel
theorem dX5_reader_71 : decode cX5_reader 71 = .ok (.iload_n 1, 1) := by decide +kernel
theorem dX5_reader_72 : decode cX5_reader 72 = .ok (.iaload, 1) := by decide +kernel
theorem dX5_reader_73 : decode cX5_reader 73 = .ok (.ireturn, 1) := by decide +kernel
theorem dX5_reader_74 : decode cX5_reader 74 = .ok (.aload_n 0, 1) := by decide +kernel
theorem dX5_reader_75 : decode cX5_reader 75 = .ok (.getfield 26, 3) := by decide +kernel
theorem dX5_reader_78 : decode cX5_reader 78 = .ok (.iload_n 1, 1) := by decide +kernel
theorem dX5_reader_79 : decode cX5_reader 79 = .ok (.invokevirtual 100, 3) := by decide +kernel
theorem dX5_reader_82 : decode cX5_reader 82 = .ok (.ireturn, 1) := by decide +kernel
theorem dX5_reader_83 : decode cX5_reader 83 = .ok (.bipush (-2), 2) := by decide +kernel
theorem dX5_reader_85 : decode cX5_reader 85 = .ok (.ireturn, 1) := by decide +kernel
theorem dX5_sample_0 : decode cX5_sample 0 = .ok (.aload_n 0, 1) := by decide +kernel
theorem dX5_sample_1 : decode cX5_sample 1 = .ok (.getfield 19, 3) := by decide +kernel
theorem dX5_sample_4 : decode cX5_sample 4 = .ok (.iload_n 1, 1) := by decide +kernel
theorem dX5_sample_5 : decode cX5_sample 5 = .ok (.invokevirtual 104, 3) := by decide +kernel
theorem dX5_sample_8 : decode cX5_sample 8 = .ok (.ifCond .ne 5, 3) := by decide +kernel
theorem dX5_sample_11 : decode cX5_sample 11 = .ok (.iconst (-1), 1) := by decide +kernel
theorem dX5_sample_12 : decode cX5_sample 12 = .ok (.ireturn, 1) := by decide +kernel
theorem dX5_sample_13 : decode cX5_sample 13 = .ok (.iload_n 2, 1) := by decide +kernel
theorem dX5_sample_14 : decode cX5_sample 14 = .ok (.tableswitch 70 0 3 #[30, 40, 46, 58], 30) := by decide +kernel
theorem dX5_sample_44 : decode cX5_sample 44 = .ok (.aload_n 0, 1) := by decide +kernel
theorem dX5_sample_45 : decode cX5_sample 45 = .ok (.getfield 19, 3) := by decide +kernel
theorem dX5_sample_48 : decode cX5_sample 48 = .ok (.getfield 107, 3) := by decide +kernel
theorem dX5_sample_51 : decode cX5_sample 51 = .ok (.iload_n 1, 1) := by decide +kernel
theorem dX5_sample_52 : decode cX5_sample 52 = .ok (.iaload, 1) := by decide +kernel
theorem dX5_sample_53 : decode cX5_sample 53 = .ok (.ireturn, 1) := by decide +kernel
theorem dX5_sample_54 : decode cX5_sample 54 = .ok (.aload_n 0, 1) := by decide +kernel
theorem dX5_sample_55 : decode cX5_sample 55 = .ok (.iload_n 1, 1) := by decide +kernel
theorem dX5_sample_56 : decode cX5_sample 56 = .ok (.invokevirtual 110, 3) := by decide +kernel
theorem dX5_sample_59 : decode cX5_sample 59 = .ok (.ireturn, 1) := by decide +kernel
theorem dX5_sample_60 : decode cX5_sample 60 = .ok (.aload_n 0, 1) := by decide +kernel
theorem dX5_sample_61 : decode cX5_sample 61 = .ok (.getfield 26, 3) := by decide +kernel
theorem dX5_sample_64 : decode cX5_sample 64 = .ok (.getfield 113, 3) := by decide +kernel
theorem dX5_sample_67 : decode cX5_sample 67 = .ok (.iload_n 1, 1) := by decide +kernel
theorem dX5_sample_68 : decode cX5_sample 68 = .ok (.invokestatic 116, 3) := by decide +kernel
theorem dX5_sample_71 : decode cX5_sample 71 = .ok (.ireturn, 1) := by decide +kernel
theorem dX5_sample_72 : decode cX5_sample 72 = .ok (.aload_n 0, 1) := by decide +kernel
theorem dX5_sample_73 : decode cX5_sample 73 = .ok (.getfield 26, 3) := by decide +kernel
theorem dX5_sample_76 : decode cX5_sample 76 = .ok (.getfield 120, 3) := by decide +kernel
theorem dX5_sample_79 : decode cX5_sample 79 = .ok (.iload_n 1, 1) := by decide +kernel
theorem dX5_sample_80 : decode cX5_sample 80 = .ok (.invokestatic 116, 3) := by decide +kernel
theorem dX5_sample_83 : decode cX5_sample 83 = .ok (.ireturn, 1) := by decide +kernel
theorem dX5_sample_84 : decode cX5_sample 84 = .ok (.bipush (-2), 2) := by decide +kernel
theorem dX5_sample_86 : decode cX5_sample 86 = .ok (.ireturn, 1) := by decide +kernel
theorem dX5_bright_0 : decode cX5_bright 0 = .ok (.aload_n 0, 1) := by decide +kernel
theorem dX5_bright_1 : decode cX5_bright 1 = .ok (.getfield 19, 3) := by decide +kernel
theorem dX5_bright_4 : decode cX5_bright 4 = .ok (.iload_n 1, 1) := by decide +kernel
theorem dX5_bright_5 : decode cX5_bright 5 = .ok (.iload_n 2, 1) := by decide +kernel
theorem dX5_bright_6 : decode cX5_bright 6 = .ok (.invokevirtual 123, 3) := by decide +kernel
theorem dX5_bright_9 : decode cX5_bright 9 = .ok (.ifCond .ne 5, 3) := by decide +kernel
theorem dX5_bright_12 : decode cX5_bright 12 = .ok (.iconst (-1), 1) := by decide +kernel
theorem dX5_bright_13 : decode cX5_bright 13 = .ok (.ireturn, 1) := by decide +kernel
theorem dX5_bright_14 : decode cX5_bright 14 = .ok (.aload_n 0, 1) := by decide +kernel
theorem dX5_bright_15 : decode cX5_bright 15 = .ok (.getfield 26, 3) := by decide +kernel
theorem dX5_bright_18 : decode cX5_bright 18 = .ok (.aload_n 0, 1) := by decide +kernel
theorem dX5_bright_19 : decode cX5_bright 19 = .ok (.getfield 19, 3) := by decide +kernel
theorem dX5_bright_22 : decode cX5_bright 22 = .ok (.iload_n 1, 1) := by decide +kernel
theorem dX5_bright_23 : decode cX5_bright 23 = .ok (.iload_n 2, 1) := by decide +kernel
theorem dX5_bright_24 : decode cX5_bright 24 = .ok (.invokevirtual 127, 3) := by decide +kernel
theorem dX5_bright_27 : decode cX5_bright 27 = .ok (.ireturn, 1) := by decide +kernel
theorem dX5_read_0 : decode cX5_read 0 = .ok (.aload_n 0, 1) := by decide +kernel
theorem dX5_read_1 : decode cX5_read 1 = .ok (.getfield 19, 3) := by decide +kernel
theorem dX5_read_4 : decode cX5_read 4 = .ok (.iload_n 1, 1) := by decide +kernel
theorem dX5_read_5 : decode cX5_read 5 = .ok (.iload_n 2, 1) := by decide +kernel
theorem dX5_read_6 : decode cX5_read 6 = .ok (.invokevirtual 123, 3) := by decide +kernel
theorem dX5_read_9 : decode cX5_read 9 = .ok (.ifCond .ne 5, 3) := by decide +kernel
theorem dX5_read_12 : decode cX5_read 12 = .ok (.iconst (-1), 1) := by decide +kernel
theorem dX5_read_13 : decode cX5_read 13 = .ok (.ireturn, 1) := by decide +kernel
theorem dX5_read_14 : decode cX5_read 14 = .ok (.aload_n 0, 1) := by decide +kernel
theorem dX5_read_15 : decode cX5_read 15 = .ok (.getfield 33, 3) := by decide +kernel
theorem dX5_read_18 : decode cX5_read 18 = .ok (.aload_n 0, 1) := by decide +kernel
theorem dX5_read_19 : decode cX5_read 19 = .ok (.getfield 26, 3) := by decide +kernel
theorem dX5_read_22 : decode cX5_read 22 = .ok (.invokevirtual 131, 3) := by decide +kernel
theorem dX5_read_25 : decode cX5_read 25 = .ok (.aload_n 0, 1) := by decide +kernel
theorem dX5_read_26 : decode cX5_read 26 = .ok (.getfield 26, 3) := by decide +kernel
theorem dX5_read_29 : decode cX5_read 29 = .ok (.aload_n 0, 1) := by decide +kernel
theorem dX5_read_30 : decode cX5_read 30 = .ok (.getfield 19, 3) := by decide +kernel
theorem dX5_read_33 : decode cX5_read 33 = .ok (.iload_n 1, 1) := by decide +kernel
theorem dX5_read_34 : decode cX5_read 34 = .ok (.iload_n 2, 1) := by decide +kernel
theorem dX5_read_35 : decode cX5_read 35 = .ok (.invokevirtual 135, 3) := by decide +kernel
theorem dX5_read_38 : decode cX5_read 38 = .ok (.ifCond .eq 7, 3) := by decide +kernel
theorem dX5_read_41 : decode cX5_read 41 = .ok (.iconst 1, 1) := by decide +kernel
theorem dX5_read_42 : decode cX5_read 42 = .ok (.goto 4, 3) := by decide +kernel
theorem dX5_read_45 : decode cX5_read 45 = .ok (.iconst 0, 1) := by decide +kernel
theorem dX5_read_46 : decode cX5_read 46 = .ok (.ireturn, 1) := by decide +kernel
theorem dX5_rest_0 : decode cX5_rest 0 = .ok (.aload_n 0, 1) := by decide +kernel
theorem dX5_rest_1 : decode cX5_rest 1 = .ok (.getfield 19, 3) := by decide +kernel
theorem dX5_rest_4 : decode cX5_rest 4 = .ok (.iload_n 1, 1) := by decide +kernel
theorem dX5_rest_5 : decode cX5_rest 5 = .ok (.invokevirtual 88, 3) := by decide +kernel
theorem dX5_rest_8 : decode cX5_rest 8 = .ok (.ifCond .ne 5, 3) := by decide +kernel
theorem dX5_rest_11 : decode cX5_rest 11 = .ok (.iconst (-1), 1) := by decide +kernel
theorem dX5_rest_12 : decode cX5_rest 12 = .ok (.ireturn, 1) := by decide +kernel
theorem dX5_rest_13 : decode cX5_rest 13 = .ok (.aload_n 0, 1) := by decide +kernel
theorem dX5_rest_14 : decode cX5_rest 14 = .ok (.getfield 26, 3) := by decide +kernel
theorem dX5_rest_17 : decode cX5_rest 17 = .ok (.iload_n 1, 1) := by decide +kernel
theorem dX5_rest_18 : decode cX5_rest 18 = .ok (.invokevirtual 100, 3) := by decide +kernel
theorem dX5_rest_21 : decode cX5_rest 21 = .ok (.istore_n 2, 1) := by decide +kernel
theorem dX5_rest_22 : decode cX5_rest 22 = .ok (.iload_n 2, 1) := by decide +kernel
theorem dX5_rest_23 : decode cX5_rest 23 = .ok (.ifCond .ne 6, 3) := by decide +kernel
theorem dX5_rest_26 : decode cX5_rest 26 = .ok (.bipush (-3), 2) := by decide +kernel
theorem dX5_rest_28 : decode cX5_rest 28 = .ok (.ireturn, 1) := by decide +kernel
theorem dX5_rest_29 : decode cX5_rest 29 = .ok (.aload_n 0, 1) := by decide +kernel
theorem dX5_rest_30 : decode cX5_rest 30 = .ok (.getfield 33, 3) := by decide +kernel
theorem dX5_rest_33 : decode cX5_rest 33 = .ok (.aload_n 0, 1) := by decide +kernel
theorem dX5_rest_34 : decode cX5_rest 34 = .ok (.getfield 26, 3) := by decide +kernel
theorem dX5_rest_37 : decode cX5_rest 37 = .ok (.invokevirtual 131, 3) := by decide +kernel
theorem dX5_rest_40 : decode cX5_rest 40 = .ok (.aload_n 0, 1) := by decide +kernel
theorem dX5_rest_41 : decode cX5_rest 41 = .ok (.getfield 26, 3) := by decide +kernel
theorem dX5_rest_44 : decode cX5_rest 44 = .ok (.iload_n 1, 1) := by decide +kernel
theorem dX5_rest_45 : decode cX5_rest 45 = .ok (.iconst 0, 1) := by decide +kernel
theorem dX5_rest_46 : decode cX5_rest 46 = .ok (.invokevirtual 139, 3) := by decide +kernel
theorem dX5_rest_49 : decode cX5_rest 49 = .ok (.iload_n 2, 1) := by decide +kernel
theorem dX5_rest_50 : decode cX5_rest 50 = .ok (.ireturn, 1) := by decide +kernel
theorem dX5_withdraw_0 : decode cX5_withdraw 0 = .ok (.aload_n 0, 1) := by decide +kernel
theorem dX5_withdraw_1 : decode cX5_withdraw 1 = .ok (.getfield 19, 3) := by decide +kernel
theorem dX5_withdraw_4 : decode cX5_withdraw 4 = .ok (.iload_n 1, 1) := by decide +kernel
theorem dX5_withdraw_5 : decode cX5_withdraw 5 = .ok (.iload_n 2, 1) := by decide +kernel
theorem dX5_withdraw_6 : decode cX5_withdraw 6 = .ok (.invokevirtual 123, 3) := by decide +kernel
theorem dX5_withdraw_9 : decode cX5_withdraw 9 = .ok (.ifCond .ne 5, 3) := by decide +kernel
theorem dX5_withdraw_12 : decode cX5_withdraw 12 = .ok (.iconst (-1), 1) := by decide +kernel
theorem dX5_withdraw_13 : decode cX5_withdraw 13 = .ok (.ireturn, 1) := by decide +kernel
theorem dX5_withdraw_14 : decode cX5_withdraw 14 = .ok (.iload_n 1, 1) := by decide +kernel
theorem dX5_withdraw_15 : decode cX5_withdraw 15 = .ok (.iload_n 2, 1) := by decide +kernel
theorem dX5_withdraw_16 : decode cX5_withdraw 16 = .ok (.invokestatic 143, 3) := by decide +kernel
theorem dX5_withdraw_19 : decode cX5_withdraw 19 = .ok (.istore_n 3, 1) := by decide +kernel
theorem dX5_withdraw_20 : decode cX5_withdraw 20 = .ok (.aload_n 0, 1) := by decide +kernel
theorem dX5_withdraw_21 : decode cX5_withdraw 21 = .ok (.getfield 26, 3) := by decide +kernel
theorem dX5_withdraw_24 : decode cX5_withdraw 24 = .ok (.invokevirtual 146, 3) := by decide +kernel
theorem dX5_withdraw_27 : decode cX5_withdraw 27 = .ok (.iload_n 3, 1) := by decide +kernel
theorem dX5_withdraw_28 : decode cX5_withdraw 28 = .ok (.iand, 1) := by decide +kernel
theorem dX5_withdraw_29 : decode cX5_withdraw 29 = .ok (.ifCond .ne 6, 3) := by decide +kernel
theorem dX5_withdraw_32 : decode cX5_withdraw 32 = .ok (.bipush (-3), 2) := by decide +kernel
theorem dX5_withdraw_34 : decode cX5_withdraw 34 = .ok (.ireturn, 1) := by decide +kernel
theorem dX5_withdraw_35 : decode cX5_withdraw 35 = .ok (.aload_n 0, 1) := by decide +kernel
theorem dX5_withdraw_36 : decode cX5_withdraw 36 = .ok (.getfield 33, 3) := by decide +kernel
theorem dX5_withdraw_39 : decode cX5_withdraw 39 = .ok (.aload_n 0, 1) := by decide +kernel
theorem dX5_withdraw_40 : decode cX5_withdraw 40 = .ok (.getfield 26, 3) := by decide +kernel
theorem dX5_withdraw_43 : decode cX5_withdraw 43 = .ok (.invokevirtual 131, 3) := by decide +kernel
theorem dX5_withdraw_46 : decode cX5_withdraw 46 = .ok (.aload_n 0, 1) := by decide +kernel
theorem dX5_withdraw_47 : decode cX5_withdraw 47 = .ok (.getfield 26, 3) := by decide +kernel
theorem dX5_withdraw_50 : decode cX5_withdraw 50 = .ok (.getfield 113, 3) := by decide +kernel
theorem dX5_withdraw_53 : decode cX5_withdraw 53 = .ok (.iload_n 3, 1) := by decide +kernel
theorem dX5_withdraw_54 : decode cX5_withdraw 54 = .ok (.iand, 1) := by decide +kernel
theorem dX5_withdraw_55 : decode cX5_withdraw 55 = .ok (.ifCond .eq 7, 3) := by decide +kernel
theorem dX5_withdraw_58 : decode cX5_withdraw 58 = .ok (.iconst 1, 1) := by decide +kernel
theorem dX5_withdraw_59 : decode cX5_withdraw 59 = .ok (.goto 4, 3) := by decide +kernel
theorem dX5_withdraw_62 : decode cX5_withdraw 62 = .ok (.iconst 0, 1) := by decide +kernel
theorem dX5_withdraw_63 : decode cX5_withdraw 63 = .ok (.istore 4, 2) := by decide +kernel
theorem dX5_withdraw_65 : decode cX5_withdraw 65 = .ok (.aload_n 0, 1) := by decide +kernel
theorem dX5_withdraw_66 : decode cX5_withdraw 66 = .ok (.getfield 26, 3) := by decide +kernel
theorem dX5_withdraw_69 : decode cX5_withdraw 69 = .ok (.iload_n 3, 1) := by decide +kernel
theorem dX5_withdraw_70 : decode cX5_withdraw 70 = .ok (.invokevirtual 149, 3) := by decide +kernel
theorem dX5_withdraw_73 : decode cX5_withdraw 73 = .ok (.iload 4, 2) := by decide +kernel
theorem dX5_withdraw_75 : decode cX5_withdraw 75 = .ok (.ireturn, 1) := by decide +kernel
theorem dX5_prism_0 : decode cX5_prism 0 = .ok (.aload_n 0, 1) := by decide +kernel
theorem dX5_prism_1 : decode cX5_prism 1 = .ok (.getfield 33, 3) := by decide +kernel
theorem dX5_prism_4 : decode cX5_prism 4 = .ok (.aload_n 0, 1) := by decide +kernel
theorem dX5_prism_5 : decode cX5_prism 5 = .ok (.getfield 26, 3) := by decide +kernel
theorem dX5_prism_8 : decode cX5_prism 8 = .ok (.invokevirtual 131, 3) := by decide +kernel
theorem dX5_prism_11 : decode cX5_prism 11 = .ok (.aload_n 0, 1) := by decide +kernel
theorem dX5_prism_12 : decode cX5_prism 12 = .ok (.getfield 26, 3) := by decide +kernel
theorem dX5_prism_15 : decode cX5_prism 15 = .ok (.aload_n 0, 1) := by decide +kernel
theorem dX5_prism_16 : decode cX5_prism 16 = .ok (.getfield 26, 3) := by decide +kernel
theorem dX5_prism_19 : decode cX5_prism 19 = .ok (.getfield 153, 3) := by decide +kernel
theorem dX5_prism_22 : decode cX5_prism 22 = .ok (.ifCond .ne 7, 3) := by decide +kernel
theorem dX5_prism_25 : decode cX5_prism 25 = .ok (.iconst 1, 1) := by decide +kernel
theorem dX5_prism_26 : decode cX5_prism 26 = .ok (.goto 4, 3) := by decide +kernel
theorem dX5_prism_29 : decode cX5_prism 29 = .ok (.iconst 0, 1) := by decide +kernel
theorem dX5_prism_30 : decode cX5_prism 30 = .ok (.putfield 153, 3) := by decide +kernel
theorem dX5_prism_33 : decode cX5_prism 33 = .ok (.aload_n 0, 1) := by decide +kernel
theorem dX5_prism_34 : decode cX5_prism 34 = .ok (.getfield 26, 3) := by decide +kernel
theorem dX5_prism_37 : decode cX5_prism 37 = .ok (.getfield 153, 3) := by decide +kernel
theorem dX5_prism_40 : decode cX5_prism 40 = .ok (.ifCond .eq 7, 3) := by decide +kernel
theorem dX5_prism_43 : decode cX5_prism 43 = .ok (.iconst 1, 1) := by decide +kernel
theorem dX5_prism_44 : decode cX5_prism 44 = .ok (.goto 4, 3) := by decide +kernel
theorem dX5_prism_47 : decode cX5_prism 47 = .ok (.iconst 0, 1) := by decide +kernel
theorem dX5_prism_48 : decode cX5_prism 48 = .ok (.ireturn, 1) := by decide +kernel
theorem dX5_tell_0 : decode cX5_tell 0 = .ok (.aload_n 0, 1) := by decide +kernel
theorem dX5_tell_1 : decode cX5_tell 1 = .ok (.getfield 33, 3) := by decide +kernel
theorem dX5_tell_4 : decode cX5_tell 4 = .ok (.aload_n 0, 1) := by decide +kernel
theorem dX5_tell_5 : decode cX5_tell 5 = .ok (.getfield 26, 3) := by decide +kernel
theorem dX5_tell_8 : decode cX5_tell 8 = .ok (.invokevirtual 131, 3) := by decide +kernel
theorem dX5_tell_11 : decode cX5_tell 11 = .ok (.aload_n 0, 1) := by decide +kernel
theorem dX5_tell_12 : decode cX5_tell 12 = .ok (.getfield 26, 3) := by decide +kernel
theorem dX5_tell_15 : decode cX5_tell 15 = .ok (.aload_n 0, 1) := by decide +kernel
theorem dX5_tell_16 : decode cX5_tell 16 = .ok (.getfield 26, 3) := by decide +kernel
theorem dX5_tell_19 : decode cX5_tell 19 = .ok (.getfield 157, 3) := by decide +kernel
theorem dX5_tell_22 : decode cX5_tell 22 = .ok (.ifCond .ne 7, 3) := by decide +kernel
theorem dX5_tell_25 : decode cX5_tell 25 = .ok (.iconst 1, 1) := by decide +kernel
theorem dX5_tell_26 : decode cX5_tell 26 = .ok (.goto 4, 3) := by decide +kernel
theorem dX5_tell_29 : decode cX5_tell 29 = .ok (.iconst 0, 1) := by decide +kernel
theorem dX5_tell_30 : decode cX5_tell 30 = .ok (.putfield 157, 3) := by decide +kernel
theorem dX5_tell_33 : decode cX5_tell 33 = .ok (.aload_n 0, 1) := by decide +kernel
theorem dX5_tell_34 : decode cX5_tell 34 = .ok (.getfield 26, 3) := by decide +kernel
theorem dX5_tell_37 : decode cX5_tell 37 = .ok (.getfield 157, 3) := by decide +kernel
theorem dX5_tell_40 : decode cX5_tell 40 = .ok (.ifCond .eq 7, 3) := by decide +kernel
theorem dX5_tell_43 : decode cX5_tell 43 = .ok (.iconst 1, 1) := by decide +kernel
theorem dX5_tell_44 : decode cX5_tell 44 = .ok (.goto 4, 3) := by decide +kernel
theorem dX5_tell_47 : decode cX5_tell 47 = .ok (.iconst 0, 1) := by decide +kernel
theorem dX5_tell_48 : decode cX5_tell 48 = .ok (.ireturn, 1) := by decide +kernel
theorem dX5_undo_0 : decode cX5_undo 0 = .ok (.aload_n 0, 1) := by decide +kernel
theorem dX5_undo_1 : decode cX5_undo 1 = .ok (.getfield 33, 3) := by decide +kernel
theorem dX5_undo_4 : decode cX5_undo 4 = .ok (.getfield 160, 3) := by decide +kernel
theorem dX5_undo_7 : decode cX5_undo 7 = .ok (.ifCond .ne 6, 3) := by decide +kernel
theorem dX5_undo_10 : decode cX5_undo 10 = .ok (.bipush (-3), 2) := by decide +kernel
theorem dX5_undo_12 : decode cX5_undo 12 = .ok (.ireturn, 1) := by decide +kernel
theorem dX5_undo_13 : decode cX5_undo 13 = .ok (.aload_n 0, 1) := by decide +kernel
theorem dX5_undo_14 : decode cX5_undo 14 = .ok (.getfield 33, 3) := by decide +kernel
theorem dX5_undo_17 : decode cX5_undo 17 = .ok (.aload_n 0, 1) := by decide +kernel
theorem dX5_undo_18 : decode cX5_undo 18 = .ok (.getfield 26, 3) := by decide +kernel
theorem dX5_undo_21 : decode cX5_undo 21 = .ok (.invokevirtual 163, 3) := by decide +kernel
theorem dX5_undo_24 : decode cX5_undo 24 = .ok (.aload_n 0, 1) := by decide +kernel
theorem dX5_undo_25 : decode cX5_undo 25 = .ok (.getfield 33, 3) := by decide +kernel
theorem dX5_undo_28 : decode cX5_undo 28 = .ok (.getfield 160, 3) := by decide +kernel
theorem dX5_undo_31 : decode cX5_undo 31 = .ok (.ireturn, 1) := by decide +kernel
theorem dX5_fooled_0 : decode cX5_fooled 0 = .ok (.aload_n 0, 1) := by decide +kernel
theorem dX5_fooled_1 : decode cX5_fooled 1 = .ok (.getfield 19, 3) := by decide +kernel
theorem dX5_fooled_4 : decode cX5_fooled 4 = .ok (.iload_n 1, 1) := by decide +kernel
theorem dX5_fooled_5 : decode cX5_fooled 5 = .ok (.invokevirtual 104, 3) := by decide +kernel
theorem dX5_fooled_8 : decode cX5_fooled 8 = .ok (.ifCond .ne 5, 3) := by decide +kernel
theorem dX5_fooled_11 : decode cX5_fooled 11 = .ok (.iconst (-1), 1) := by decide +kernel
theorem dX5_fooled_12 : decode cX5_fooled 12 = .ok (.ireturn, 1) := by decide +kernel
theorem dX5_fooled_13 : decode cX5_fooled 13 = .ok (.aload_n 0, 1) := by decide +kernel
theorem dX5_fooled_14 : decode cX5_fooled 14 = .ok (.iload_n 1, 1) := by decide +kernel
theorem dX5_fooled_15 : decode cX5_fooled 15 = .ok (.iconst 0, 1) := by decide +kernel
theorem dX5_fooled_16 : decode cX5_fooled 16 = .ok (.iconst 1, 1) := by decide +kernel
theorem dX5_fooled_17 : decode cX5_fooled 17 = .ok (.invokevirtual 166, 3) := by decide +kernel
theorem dX5_fooled_20 : decode cX5_fooled 20 = .ok (.ireturn, 1) := by decide +kernel
theorem dX5_truly_0 : decode cX5_truly 0 = .ok (.aload_n 0, 1) := by decide +kernel
theorem dX5_truly_1 : decode cX5_truly 1 = .ok (.getfield 19, 3) := by decide +kernel
theorem dX5_truly_4 : decode cX5_truly 4 = .ok (.iload_n 1, 1) := by decide +kernel
theorem dX5_truly_5 : decode cX5_truly 5 = .ok (.invokevirtual 104, 3) := by decide +kernel
theorem dX5_truly_8 : decode cX5_truly 8 = .ok (.ifCond .ne 5, 3) := by decide +kernel
theorem dX5_truly_11 : decode cX5_truly 11 = .ok (.iconst (-1), 1) := by decide +kernel
theorem dX5_truly_12 : decode cX5_truly 12 = .ok (.ireturn, 1) := by decide +kernel
theorem dX5_truly_13 : decode cX5_truly 13 = .ok (.aload_n 0, 1) := by decide +kernel
theorem dX5_truly_14 : decode cX5_truly 14 = .ok (.iload_n 1, 1) := by decide +kernel
theorem dX5_truly_15 : decode cX5_truly 15 = .ok (.iconst 1, 1) := by decide +kernel
theorem dX5_truly_16 : decode cX5_truly 16 = .ok (.iconst 0, 1) := by decide +kernel
theorem dX5_truly_17 : decode cX5_truly 17 = .ok (.invokevirtual 166, 3) := by decide +kernel
theorem dX5_truly_20 : decode cX5_truly 20 = .ok (.aload_n 0, 1) := by decide +kernel
theorem dX5_truly_21 : decode cX5_truly 21 = .ok (.iload_n 1, 1) := by decide +kernel
theorem dX5_truly_22 : decode cX5_truly 22 = .ok (.iconst 0, 1) := by decide +kernel
theorem dX5_truly_23 : decode cX5_truly 23 = .ok (.iconst 0, 1) := by decide +kernel
theorem dX5_truly_24 : decode cX5_truly 24 = .ok (.invokevirtual 166, 3) := by decide +kernel
theorem dX5_truly_27 : decode cX5_truly 27 = .ok (.iconst (-1), 1) := by decide +kernel
theorem dX5_truly_28 : decode cX5_truly 28 = .ok (.ixor, 1) := by decide +kernel
theorem dX5_truly_29 : decode cX5_truly 29 = .ok (.iand, 1) := by decide +kernel
theorem dX5_truly_30 : decode cX5_truly 30 = .ok (.ireturn, 1) := by decide +kernel
theorem dX5_cover_0 : decode cX5_cover 0 = .ok (.aload_n 0, 1) := by decide +kernel
theorem dX5_cover_1 : decode cX5_cover 1 = .ok (.getfield 19, 3) := by decide +kernel
theorem dX5_cover_4 : decode cX5_cover 4 = .ok (.invokevirtual 170, 3) := by decide +kernel
theorem dX5_cover_7 : decode cX5_cover 7 = .ok (.istore_n 1, 1) := by decide +kernel
theorem dX5_cover_8 : decode cX5_cover 8 = .ok (.iconst 0, 1) := by decide +kernel
theorem dX5_cover_9 : decode cX5_cover 9 = .ok (.istore_n 2, 1) := by decide +kernel
theorem dX5_cover_10 : decode cX5_cover 10 = .ok (.iload_n 2, 1) := by decide +kernel
theorem dX5_cover_11 : decode cX5_cover 11 = .ok (.aload_n 0, 1) := by decide +kernel
theorem dX5_cover_12 : decode cX5_cover 12 = .ok (.getfield 19, 3) := by decide +kernel
theorem dX5_cover_15 : decode cX5_cover 15 = .ok (.getfield 85, 3) := by decide +kernel
theorem dX5_cover_18 : decode cX5_cover 18 = .ok (.if_icmp .ge 42, 3) := by decide +kernel
theorem dX5_cover_21 : decode cX5_cover 21 = .ok (.aload_n 0, 1) := by decide +kernel
theorem dX5_cover_22 : decode cX5_cover 22 = .ok (.getfield 55, 3) := by decide +kernel
theorem dX5_cover_25 : decode cX5_cover 25 = .ok (.iload_n 2, 1) := by decide +kernel
theorem dX5_cover_26 : decode cX5_cover 26 = .ok (.aload_n 0, 1) := by decide +kernel
theorem dX5_cover_27 : decode cX5_cover 27 = .ok (.iload_n 2, 1) := by decide +kernel
theorem dX5_cover_28 : decode cX5_cover 28 = .ok (.invokevirtual 110, 3) := by decide +kernel
theorem dX5_cover_31 : decode cX5_cover 31 = .ok (.iastore, 1) := by decide +kernel
theorem dX5_cover_32 : decode cX5_cover 32 = .ok (.aload_n 0, 1) := by decide +kernel
theorem dX5_cover_33 : decode cX5_cover 33 = .ok (.getfield 19, 3) := by decide +kernel
theorem dX5_cover_36 : decode cX5_cover 36 = .ok (.iload_n 2, 1) := by decide +kernel
theorem dX5_cover_37 : decode cX5_cover 37 = .ok (.invokevirtual 173, 3) := by decide +kernel
theorem dX5_cover_40 : decode cX5_cover 40 = .ok (.ifCond .ne 14, 3) := by decide +kernel
theorem dX5_cover_43 : decode cX5_cover 43 = .ok (.iload_n 1, 1) := by decide +kernel
theorem dX5_cover_44 : decode cX5_cover 44 = .ok (.aload_n 0, 1) := by decide +kernel
theorem dX5_cover_45 : decode cX5_cover 45 = .ok (.getfield 55, 3) := by decide +kernel
theorem dX5_cover_48 : decode cX5_cover 48 = .ok (.iload_n 2, 1) := by decide +kernel
theorem dX5_cover_49 : decode cX5_cover 49 = .ok (.iaload, 1) := by decide +kernel
theorem dX5_cover_50 : decode cX5_cover 50 = .ok (.iconst (-1), 1) := by decide +kernel
theorem dX5_cover_51 : decode cX5_cover 51 = .ok (.ixor, 1) := by decide +kernel
theorem dX5_cover_52 : decode cX5_cover 52 = .ok (.iand, 1) := by decide +kernel
theorem dX5_cover_53 : decode cX5_cover 53 = .ok (.istore_n 1, 1) := by decide +kernel
theorem dX5_cover_54 : decode cX5_cover 54 = .ok (.iinc 2 1, 3) := by decide +kernel
theorem dX5_cover_57 : decode cX5_cover 57 = .ok (.goto (-47), 3) := by decide +kernel
theorem dX5_cover_60 : decode cX5_cover 60 = .ok (.bipush (-9), 2) := by decide +kernel
theorem dX5_cover_62 : decode cX5_cover 62 = .ok (.istore_n 2, 1) := by decide +kernel
theorem dX5_cover_63 : decode cX5_cover 63 = .ok (.iconst 0, 1) := by decide +kernel
theorem dX5_cover_64 : decode cX5_cover 64 = .ok (.istore_n 3, 1) := by decide +kernel
theorem dX5_cover_65 : decode cX5_cover 65 = .ok (.iload_n 3, 1) := by decide +kernel
theorem dX5_cover_66 : decode cX5_cover 66 = .ok (.aload_n 0, 1) := by decide +kernel
theorem dX5_cover_67 : decode cX5_cover 67 = .ok (.getfield 19, 3) := by decide +kernel
theorem dX5_cover_70 : decode cX5_cover 70 = .ok (.invokevirtual 170, 3) := by decide +kernel
theorem dX5_cover_73 : decode cX5_cover 73 = .ok (.if_icmp .gt 56, 3) := by decide +kernel
theorem dX5_cover_76 : decode cX5_cover 76 = .ok (.iload_n 2, 1) := by decide +kernel
theorem dX5_cover_77 : decode cX5_cover 77 = .ok (.bipush (-9), 2) := by decide +kernel
theorem dX5_cover_79 : decode cX5_cover 79 = .ok (.if_icmp .eq 14, 3) := by decide +kernel
theorem dX5_cover_82 : decode cX5_cover 82 = .ok (.iload_n 3, 1) := by decide +kernel
theorem dX5_cover_83 : decode cX5_cover 83 = .ok (.invokestatic 176, 3) := by decide +kernel
theorem dX5_cover_86 : decode cX5_cover 86 = .ok (.iload_n 2, 1) := by decide +kernel
theorem dX5_cover_87 : decode cX5_cover 87 = .ok (.invokestatic 176, 3) := by decide +kernel
theorem dX5_cover_90 : decode cX5_cover 90 = .ok (.if_icmp .ge 7, 3) := by decide +kernel
theorem dX5_cover_93 : decode cX5_cover 93 = .ok (.iconst 1, 1) := by decide +kernel
theorem dX5_cover_94 : decode cX5_cover 94 = .ok (.goto 4, 3) := by decide +kernel
theorem dX5_cover_97 : decode cX5_cover 97 = .ok (.iconst 0, 1) := by decide +kernel
theorem dX5_cover_98 : decode cX5_cover 98 = .ok (.istore 4, 2) := by decide +kernel
theorem dX5_cover_100 : decode cX5_cover 100 = .ok (.iload 4, 2) := by decide +kernel
theorem dX5_cover_102 : decode cX5_cover 102 = .ok (.ifCond .eq 21, 3) := by decide +kernel
theorem dX5_cover_105 : decode cX5_cover 105 = .ok (.iload_n 3, 1) := by decide +kernel
theorem dX5_cover_106 : decode cX5_cover 106 = .ok (.iload_n 1, 1) := by decide +kernel
theorem dX5_cover_107 : decode cX5_cover 107 = .ok (.iconst (-1), 1) := by decide +kernel
theorem dX5_cover_108 : decode cX5_cover 108 = .ok (.ixor, 1) := by decide +kernel
theorem dX5_cover_109 : decode cX5_cover 109 = .ok (.iand, 1) := by decide +kernel
theorem dX5_cover_110 : decode cX5_cover 110 = .ok (.ifCond .ne 13, 3) := by decide +kernel
theorem dX5_cover_113 : decode cX5_cover 113 = .ok (.aload_n 0, 1) := by decide +kernel
theorem dX5_cover_114 : decode cX5_cover 114 = .ok (.iload_n 3, 1) := by decide +kernel
theorem dX5_cover_115 : decode cX5_cover 115 = .ok (.invokevirtual 181, 3) := by decide +kernel
theorem dX5_cover_118 : decode cX5_cover 118 = .ok (.ifCond .eq 5, 3) := by decide +kernel
theorem dX5_cover_121 : decode cX5_cover 121 = .ok (.iload_n 3, 1) := by decide +kernel
theorem dX5_cover_122 : decode cX5_cover 122 = .ok (.istore_n 2, 1) := by decide +kernel
theorem dX5_cover_123 : decode cX5_cover 123 = .ok (.iinc 3 1, 3) := by decide +kernel
theorem dX5_cover_126 : decode cX5_cover 126 = .ok (.goto (-61), 3) := by decide +kernel
theorem dX5_cover_129 : decode cX5_cover 129 = .ok (.iload_n 2, 1) := by decide +kernel
theorem dX5_cover_130 : decode cX5_cover 130 = .ok (.ireturn, 1) := by decide +kernel
theorem dX5_wrong_0 : decode cX5_wrong 0 = .ok (.iconst 0, 1) := by decide +kernel
theorem dX5_wrong_1 : decode cX5_wrong 1 = .ok (.istore_n 2, 1) := by decide +kernel
theorem dX5_wrong_2 : decode cX5_wrong 2 = .ok (.iconst 0, 1) := by decide +kernel
theorem dX5_wrong_3 : decode cX5_wrong 3 = .ok (.istore_n 3, 1) := by decide +kernel
theorem dX5_wrong_4 : decode cX5_wrong 4 = .ok (.iload_n 3, 1) := by decide +kernel
theorem dX5_wrong_5 : decode cX5_wrong 5 = .ok (.aload_n 0, 1) := by decide +kernel
theorem dX5_wrong_6 : decode cX5_wrong 6 = .ok (.getfield 19, 3) := by decide +kernel
theorem dX5_wrong_9 : decode cX5_wrong 9 = .ok (.getfield 85, 3) := by decide +kernel
theorem dX5_wrong_12 : decode cX5_wrong 12 = .ok (.if_icmp .ge 58, 3) := by decide +kernel
theorem dX5_wrong_15 : decode cX5_wrong 15 = .ok (.aload_n 0, 1) := by decide +kernel
theorem dX5_wrong_16 : decode cX5_wrong 16 = .ok (.getfield 26, 3) := by decide +kernel
theorem dX5_wrong_19 : decode cX5_wrong 19 = .ok (.getfield 113, 3) := by decide +kernel
theorem dX5_wrong_22 : decode cX5_wrong 22 = .ok (.iload_n 3, 1) := by decide +kernel
theorem dX5_wrong_23 : decode cX5_wrong 23 = .ok (.invokestatic 184, 3) := by decide +kernel
theorem dX5_wrong_26 : decode cX5_wrong 26 = .ok (.istore 4, 2) := by decide +kernel
theorem dX5_wrong_28 : decode cX5_wrong 28 = .ok (.aload_n 0, 1) := by decide +kernel
theorem dX5_wrong_29 : decode cX5_wrong 29 = .ok (.getfield 26, 3) := by decide +kernel
theorem dX5_wrong_32 : decode cX5_wrong 32 = .ok (.getfield 120, 3) := by decide +kernel
theorem dX5_wrong_35 : decode cX5_wrong 35 = .ok (.iload_n 3, 1) := by decide +kernel
theorem dX5_wrong_36 : decode cX5_wrong 36 = .ok (.invokestatic 184, 3) := by decide +kernel
theorem dX5_wrong_39 : decode cX5_wrong 39 = .ok (.istore 5, 2) := by decide +kernel
theorem dX5_wrong_41 : decode cX5_wrong 41 = .ok (.iload_n 2, 1) := by decide +kernel
theorem dX5_wrong_42 : decode cX5_wrong 42 = .ok (.iload 4, 2) := by decide +kernel
theorem dX5_wrong_44 : decode cX5_wrong 44 = .ok (.invokestatic 176, 3) := by decide +kernel
theorem dX5_wrong_47 : decode cX5_wrong 47 = .ok (.iload 5, 2) := by decide +kernel
theorem dX5_wrong_49 : decode cX5_wrong 49 = .ok (.invokestatic 176, 3) := by decide +kernel
theorem dX5_wrong_52 : decode cX5_wrong 52 = .ok (.if_icmp .gt 8, 3) := by decide +kernel
theorem dX5_wrong_55 : decode cX5_wrong 55 = .ok (.iload 4, 2) := by decide +kernel
theorem dX5_wrong_57 : decode cX5_wrong 57 = .ok (.goto 5, 3) := by decide +kernel
theorem dX5_wrong_60 : decode cX5_wrong 60 = .ok (.iload 5, 2) := by decide +kernel
theorem dX5_wrong_62 : decode cX5_wrong 62 = .ok (.ior, 1) := by decide +kernel
theorem dX5_wrong_63 : decode cX5_wrong 63 = .ok (.istore_n 2, 1) := by decide +kernel
theorem dX5_wrong_64 : decode cX5_wrong 64 = .ok (.iinc 3 1, 3) := by decide +kernel
theorem dX5_wrong_67 : decode cX5_wrong 67 = .ok (.goto (-63), 3) := by decide +kernel
theorem dX5_wrong_70 : decode cX5_wrong 70 = .ok (.iload_n 1, 1) := by decide +kernel
theorem dX5_wrong_71 : decode cX5_wrong 71 = .ok (.ifCond .eq 7, 3) := by decide +kernel
theorem dX5_wrong_74 : decode cX5_wrong 74 = .ok (.iload_n 2, 1) := by decide +kernel
theorem dX5_wrong_75 : decode cX5_wrong 75 = .ok (.goto 7, 3) := by decide +kernel
theorem dX5_wrong_78 : decode cX5_wrong 78 = .ok (.iload_n 2, 1) := by decide +kernel
theorem dX5_wrong_79 : decode cX5_wrong 79 = .ok (.invokestatic 176, 3) := by decide +kernel
theorem dX5_wrong_82 : decode cX5_wrong 82 = .ok (.ireturn, 1) := by decide +kernel
theorem dX5_judge_0 : decode cX5_judge 0 = .ok (.iload_n 1, 1) := by decide +kernel
theorem dX5_judge_1 : decode cX5_judge 1 = .ok (.iconst 1, 1) := by decide +kernel
theorem dX5_judge_2 : decode cX5_judge 2 = .ok (.if_icmp .lt 18, 3) := by decide +kernel
theorem dX5_judge_5 : decode cX5_judge 5 = .ok (.iload_n 1, 1) := by decide +kernel
theorem dX5_judge_6 : decode cX5_judge 6 = .ok (.iconst 4, 1) := by decide +kernel
theorem dX5_judge_7 : decode cX5_judge 7 = .ok (.if_icmp .gt 13, 3) := by decide +kernel
theorem dX5_judge_10 : decode cX5_judge 10 = .ok (.iload_n 2, 1) := by decide +kernel
theorem dX5_judge_11 : decode cX5_judge 11 = .ok (.iconst 2, 1) := by decide +kernel
theorem dX5_judge_12 : decode cX5_judge 12 = .ok (.iload_n 1, 1) := by decide +kernel
theorem dX5_judge_13 : decode cX5_judge 13 = .ok (.imul, 1) := by decide +kernel
theorem dX5_judge_14 : decode cX5_judge 14 = .ok (.invokestatic 187, 3) := by decide +kernel
theorem dX5_judge_17 : decode cX5_judge 17 = .ok (.ifCond .ne 6, 3) := by decide +kernel
theorem dX5_judge_20 : decode cX5_judge 20 = .ok (.bipush (-2), 2) := by decide +kernel
theorem dX5_judge_22 : decode cX5_judge 22 = .ok (.ireturn, 1) := by decide +kernel
theorem dX5_judge_23 : decode cX5_judge 23 = .ok (.aload_n 0, 1) := by decide +kernel
theorem dX5_judge_24 : decode cX5_judge 24 = .ok (.getfield 52, 3) := by decide +kernel
theorem dX5_judge_27 : decode cX5_judge 27 = .ok (.aload_n 0, 1) := by decide +kernel
theorem dX5_judge_28 : decode cX5_judge 28 = .ok (.getfield 26, 3) := by decide +kernel
theorem dX5_judge_31 : decode cX5_judge 31 = .ok (.invokevirtual 190, 3) := by decide +kernel
theorem dX5_judge_34 : decode cX5_judge 34 = .ok (.iconst 0, 1) := by decide +kernel
theorem dX5_judge_35 : decode cX5_judge 35 = .ok (.istore_n 3, 1) := by decide +kernel
theorem dX5_judge_36 : decode cX5_judge 36 = .ok (.iload_n 3, 1) := by decide +kernel
theorem dX5_judge_37 : decode cX5_judge 37 = .ok (.iload_n 1, 1) := by decide +kernel
theorem dX5_judge_38 : decode cX5_judge 38 = .ok (.if_icmp .ge 41, 3) := by decide +kernel
theorem dX5_judge_41 : decode cX5_judge 41 = .ok (.iconst 2, 1) := by decide +kernel
theorem dX5_judge_42 : decode cX5_judge 42 = .ok (.iload_n 1, 1) := by decide +kernel
theorem dX5_judge_43 : decode cX5_judge 43 = .ok (.iconst 1, 1) := by decide +kernel
theorem dX5_judge_44 : decode cX5_judge 44 = .ok (.isub, 1) := by decide +kernel
theorem dX5_judge_45 : decode cX5_judge 45 = .ok (.iload_n 3, 1) := by decide +kernel
theorem dX5_judge_46 : decode cX5_judge 46 = .ok (.isub, 1) := by decide +kernel
theorem dX5_judge_47 : decode cX5_judge 47 = .ok (.imul, 1) := by decide +kernel
theorem dX5_judge_48 : decode cX5_judge 48 = .ok (.istore 4, 2) := by decide +kernel
theorem dX5_judge_50 : decode cX5_judge 50 = .ok (.aload_n 0, 1) := by decide +kernel
theorem dX5_judge_51 : decode cX5_judge 51 = .ok (.iload_n 2, 1) := by decide +kernel
theorem dX5_judge_52 : decode cX5_judge 52 = .ok (.iload 4, 2) := by decide +kernel
theorem dX5_judge_54 : decode cX5_judge 54 = .ok (.iconst 1, 1) := by decide +kernel
theorem dX5_judge_55 : decode cX5_judge 55 = .ok (.iadd, 1) := by decide +kernel
theorem dX5_judge_56 : decode cX5_judge 56 = .ok (.invokestatic 193, 3) := by decide +kernel
theorem dX5_judge_59 : decode cX5_judge 59 = .ok (.iload_n 2, 1) := by decide +kernel
theorem dX5_judge_60 : decode cX5_judge 60 = .ok (.iload 4, 2) := by decide +kernel
theorem dX5_judge_62 : decode cX5_judge 62 = .ok (.invokestatic 193, 3) := by decide +kernel
theorem dX5_judge_65 : decode cX5_judge 65 = .ok (.invokevirtual 196, 3) := by decide +kernel
theorem dX5_judge_68 : decode cX5_judge 68 = .ok (.ifCond .ne 5, 3) := by decide +kernel
theorem dX5_judge_71 : decode cX5_judge 71 = .ok (.iload_n 3, 1) := by decide +kernel
theorem dX5_judge_72 : decode cX5_judge 72 = .ok (.ireturn, 1) := by decide +kernel
theorem dX5_judge_73 : decode cX5_judge 73 = .ok (.iinc 3 1, 3) := by decide +kernel
theorem dX5_judge_76 : decode cX5_judge 76 = .ok (.goto (-40), 3) := by decide +kernel
theorem dX5_judge_79 : decode cX5_judge 79 = .ok (.bipush (-9), 2) := by decide +kernel
theorem dX5_judge_81 : decode cX5_judge 81 = .ok (.ireturn, 1) := by decide +kernel
theorem dX5_hear_0 : decode cX5_hear 0 = .ok (.aload_n 0, 1) := by decide +kernel
theorem dX5_hear_1 : decode cX5_hear 1 = .ok (.getfield 19, 3) := by decide +kernel
theorem dX5_hear_4 : decode cX5_hear 4 = .ok (.iload_n 1, 1) := by decide +kernel
theorem dX5_hear_5 : decode cX5_hear 5 = .ok (.iload_n 2, 1) := by decide +kernel
theorem dX5_hear_6 : decode cX5_hear 6 = .ok (.invokevirtual 123, 3) := by decide +kernel
theorem dX5_hear_9 : decode cX5_hear 9 = .ok (.ifCond .ne 5, 3) := by decide +kernel
theorem dX5_hear_12 : decode cX5_hear 12 = .ok (.iconst (-1), 1) := by decide +kernel
theorem dX5_hear_13 : decode cX5_hear 13 = .ok (.ireturn, 1) := by decide +kernel
theorem dX5_hear_14 : decode cX5_hear 14 = .ok (.iload_n 3, 1) := by decide +kernel
theorem dX5_hear_15 : decode cX5_hear 15 = .ok (.ifCond .lt 19, 3) := by decide +kernel
theorem dX5_hear_18 : decode cX5_hear 18 = .ok (.iload_n 3, 1) := by decide +kernel
theorem dX5_hear_19 : decode cX5_hear 19 = .ok (.iconst 1, 1) := by decide +kernel
theorem dX5_hear_20 : decode cX5_hear 20 = .ok (.if_icmp .gt 14, 3) := by decide +kernel
theorem dX5_hear_23 : decode cX5_hear 23 = .ok (.iload 4, 2) := by decide +kernel
theorem dX5_hear_25 : decode cX5_hear 25 = .ok (.ifCond .lt 9, 3) := by decide +kernel
theorem dX5_hear_28 : decode cX5_hear 28 = .ok (.iload 4, 2) := by decide +kernel
theorem dX5_hear_30 : decode cX5_hear 30 = .ok (.iconst 1, 1) := by decide +kernel
theorem dX5_hear_31 : decode cX5_hear 31 = .ok (.if_icmp .le 6, 3) := by decide +kernel
theorem dX5_hear_34 : decode cX5_hear 34 = .ok (.bipush (-2), 2) := by decide +kernel
theorem dX5_hear_36 : decode cX5_hear 36 = .ok (.ireturn, 1) := by decide +kernel
theorem dX5_hear_37 : decode cX5_hear 37 = .ok (.aload_n 0, 1) := by decide +kernel
theorem dX5_hear_38 : decode cX5_hear 38 = .ok (.getfield 40, 3) := by decide +kernel
theorem dX5_hear_41 : decode cX5_hear 41 = .ok (.iload_n 1, 1) := by decide +kernel
theorem dX5_hear_42 : decode cX5_hear 42 = .ok (.iload_n 2, 1) := by decide +kernel
theorem dX5_hear_43 : decode cX5_hear 43 = .ok (.iload_n 3, 1) := by decide +kernel
theorem dX5_hear_44 : decode cX5_hear 44 = .ok (.iconst 1, 1) := by decide +kernel
theorem dX5_hear_45 : decode cX5_hear 45 = .ok (.if_icmp .ne 7, 3) := by decide +kernel
theorem dX5_hear_48 : decode cX5_hear 48 = .ok (.iconst 1, 1) := by decide +kernel
theorem dX5_hear_49 : decode cX5_hear 49 = .ok (.goto 4, 3) := by decide +kernel
theorem dX5_hear_52 : decode cX5_hear 52 = .ok (.iconst 0, 1) := by decide +kernel
theorem dX5_hear_53 : decode cX5_hear 53 = .ok (.iload 4, 2) := by decide +kernel
theorem dX5_hear_55 : decode cX5_hear 55 = .ok (.iconst 1, 1) := by decide +kernel
theorem dX5_hear_56 : decode cX5_hear 56 = .ok (.if_icmp .ne 7, 3) := by decide +kernel
theorem dX5_hear_59 : decode cX5_hear 59 = .ok (.iconst 1, 1) := by decide +kernel
theorem dX5_hear_60 : decode cX5_hear 60 = .ok (.goto 4, 3) := by decide +kernel
theorem dX5_hear_63 : decode cX5_hear 63 = .ok (.iconst 0, 1) := by decide +kernel
theorem dX5_hear_64 : decode cX5_hear 64 = .ok (.invokevirtual 199, 3) := by decide +kernel
theorem dX5_hear_67 : decode cX5_hear 67 = .ok (.ifCond .eq 13, 3) := by decide +kernel
theorem dX5_hear_70 : decode cX5_hear 70 = .ok (.aload_n 0, 1) := by decide +kernel
theorem dX5_hear_71 : decode cX5_hear 71 = .ok (.getfield 40, 3) := by decide +kernel
theorem dX5_hear_74 : decode cX5_hear 74 = .ok (.getfield 202, 3) := by decide +kernel
theorem dX5_hear_77 : decode cX5_hear 77 = .ok (.goto 5, 3) := by decide +kernel
theorem dX5_hear_80 : decode cX5_hear 80 = .ok (.bipush (-4), 2) := by decide +kernel
theorem dX5_hear_82 : decode cX5_hear 82 = .ok (.ireturn, 1) := by decide +kernel
theorem dX5_unhear_0 : decode cX5_unhear 0 = .ok (.aload_n 0, 1) := by decide +kernel
theorem dX5_unhear_1 : decode cX5_unhear 1 = .ok (.getfield 40, 3) := by decide +kernel
theorem dX5_unhear_4 : decode cX5_unhear 4 = .ok (.getfield 202, 3) := by decide +kernel
theorem dX5_unhear_7 : decode cX5_unhear 7 = .ok (.istore_n 1, 1) := by decide +kernel
theorem dX5_unhear_8 : decode cX5_unhear 8 = .ok (.aload_n 0, 1) := by decide +kernel
theorem dX5_unhear_9 : decode cX5_unhear 9 = .ok (.getfield 40, 3) := by decide +kernel
theorem dX5_unhear_12 : decode cX5_unhear 12 = .ok (.iconst 0, 1) := by decide +kernel
theorem dX5_unhear_13 : decode cX5_unhear 13 = .ok (.putfield 202, 3) := by decide +kernel
theorem dX5_unhear_16 : decode cX5_unhear 16 = .ok (.iload_n 1, 1) := by decide +kernel
theorem dX5_unhear_17 : decode cX5_unhear 17 = .ok (.ireturn, 1) := by decide +kernel
theorem dX5_expect_0 : decode cX5_expect 0 = .ok (.aload_n 0, 1) := by decide +kernel
theorem dX5_expect_1 : decode cX5_expect 1 = .ok (.getfield 19, 3) := by decide +kernel
theorem dX5_expect_4 : decode cX5_expect 4 = .ok (.iload_n 1, 1) := by decide +kernel
theorem dX5_expect_5 : decode cX5_expect 5 = .ok (.invokevirtual 88, 3) := by decide +kernel
theorem dX5_expect_8 : decode cX5_expect 8 = .ok (.ifCond .ne 5, 3) := by decide +kernel
theorem dX5_expect_11 : decode cX5_expect 11 = .ok (.iconst (-1), 1) := by decide +kernel
theorem dX5_expect_12 : decode cX5_expect 12 = .ok (.ireturn, 1) := by decide +kernel
theorem dX5_expect_13 : decode cX5_expect 13 = .ok (.iconst 0, 1) := by decide +kernel
theorem dX5_expect_14 : decode cX5_expect 14 = .ok (.istore_n 2, 1) := by decide +kernel
theorem dX5_expect_15 : decode cX5_expect 15 = .ok (.iconst 0, 1) := by decide +kernel
theorem dX5_expect_16 : decode cX5_expect 16 = .ok (.istore_n 3, 1) := by decide +kernel
theorem dX5_expect_17 : decode cX5_expect 17 = .ok (.iload_n 3, 1) := by decide +kernel
theorem dX5_expect_18 : decode cX5_expect 18 = .ok (.bipush 9, 2) := by decide +kernel
theorem dX5_expect_20 : decode cX5_expect 20 = .ok (.if_icmp .gt 31, 3) := by decide +kernel
theorem dX5_expect_23 : decode cX5_expect 23 = .ok (.aload_n 0, 1) := by decide +kernel
theorem dX5_expect_24 : decode cX5_expect 24 = .ok (.getfield 40, 3) := by decide +kernel
theorem dX5_expect_27 : decode cX5_expect 27 = .ok (.aload_n 0, 1) := by decide +kernel
theorem dX5_expect_28 : decode cX5_expect 28 = .ok (.getfield 19, 3) := by decide +kernel
theorem dX5_expect_31 : decode cX5_expect 31 = .ok (.iload_n 1, 1) := by decide +kernel
theorem dX5_expect_32 : decode cX5_expect 32 = .ok (.iload_n 3, 1) := by decide +kernel
theorem dX5_expect_33 : decode cX5_expect 33 = .ok (.invokevirtual 203, 3) := by decide +kernel
theorem dX5_expect_36 : decode cX5_expect 36 = .ok (.ifCond .eq 9, 3) := by decide +kernel
theorem dX5_expect_39 : decode cX5_expect 39 = .ok (.iload_n 2, 1) := by decide +kernel
theorem dX5_expect_40 : decode cX5_expect 40 = .ok (.iconst 1, 1) := by decide +kernel
theorem dX5_expect_41 : decode cX5_expect 41 = .ok (.iload_n 3, 1) := by decide +kernel
theorem dX5_expect_42 : decode cX5_expect 42 = .ok (.ishl, 1) := by decide +kernel
theorem dX5_expect_43 : decode cX5_expect 43 = .ok (.ior, 1) := by decide +kernel
theorem dX5_expect_44 : decode cX5_expect 44 = .ok (.istore_n 2, 1) := by decide +kernel
theorem dX5_expect_45 : decode cX5_expect 45 = .ok (.iinc 3 1, 3) := by decide +kernel
theorem dX5_expect_48 : decode cX5_expect 48 = .ok (.goto (-31), 3) := by decide +kernel
theorem dX5_expect_51 : decode cX5_expect 51 = .ok (.iload_n 2, 1) := by decide +kernel
theorem dX5_expect_52 : decode cX5_expect 52 = .ok (.ireturn, 1) := by decide +kernel
theorem dX5_gone_0 : decode cX5_gone 0 = .ok (.aload_n 0, 1) := by decide +kernel
theorem dX5_gone_1 : decode cX5_gone 1 = .ok (.getfield 19, 3) := by decide +kernel
theorem dX5_gone_4 : decode cX5_gone 4 = .ok (.iload_n 1, 1) := by decide +kernel
theorem dX5_gone_5 : decode cX5_gone 5 = .ok (.invokevirtual 88, 3) := by decide +kernel
theorem dX5_gone_8 : decode cX5_gone 8 = .ok (.ifCond .ne 5, 3) := by decide +kernel
theorem dX5_gone_11 : decode cX5_gone 11 = .ok (.iconst (-1), 1) := by decide +kernel
theorem dX5_gone_12 : decode cX5_gone 12 = .ok (.ireturn, 1) := by decide +kernel
theorem dX5_gone_13 : decode cX5_gone 13 = .ok (.iload_n 2, 1) := by decide +kernel
theorem dX5_gone_14 : decode cX5_gone 14 = .ok (.iconst 1, 1) := by decide +kernel
theorem dX5_gone_15 : decode cX5_gone 15 = .ok (.if_icmp .lt 30, 3) := by decide +kernel
theorem dX5_gone_18 : decode cX5_gone 18 = .ok (.iload_n 2, 1) := by decide +kernel
theorem dX5_gone_19 : decode cX5_gone 19 = .ok (.bipush 6, 2) := by decide +kernel
theorem dX5_gone_21 : decode cX5_gone 21 = .ok (.if_icmp .gt 24, 3) := by decide +kernel
theorem dX5_gone_24 : decode cX5_gone 24 = .ok (.iload_n 3, 1) := by decide +kernel
theorem dX5_gone_25 : decode cX5_gone 25 = .ok (.iload_n 2, 1) := by decide +kernel
theorem dX5_gone_26 : decode cX5_gone 26 = .ok (.invokestatic 187, 3) := by decide +kernel
theorem dX5_gone_29 : decode cX5_gone 29 = .ok (.ifCond .eq 16, 3) := by decide +kernel
theorem dX5_gone_32 : decode cX5_gone 32 = .ok (.iload 4, 2) := by decide +kernel
theorem dX5_gone_34 : decode cX5_gone 34 = .ok (.ifCond .lt 11, 3) := by decide +kernel
theorem dX5_gone_37 : decode cX5_gone 37 = .ok (.iload 4, 2) := by decide +kernel
theorem dX5_gone_39 : decode cX5_gone 39 = .ok (.iconst 1, 1) := by decide +kernel
theorem dX5_gone_40 : decode cX5_gone 40 = .ok (.iload_n 2, 1) := by decide +kernel
theorem dX5_gone_41 : decode cX5_gone 41 = .ok (.ishl, 1) := by decide +kernel
theorem dX5_gone_42 : decode cX5_gone 42 = .ok (.if_icmp .lt 6, 3) := by decide +kernel
theorem dX5_gone_45 : decode cX5_gone 45 = .ok (.bipush (-2), 2) := by decide +kernel
theorem dX5_gone_47 : decode cX5_gone 47 = .ok (.ireturn, 1) := by decide +kernel
theorem dX5_gone_48 : decode cX5_gone 48 = .ok (.iconst 0, 1) := by decide +kernel
theorem dX5_gone_49 : decode cX5_gone 49 = .ok (.istore 5, 2) := by decide +kernel
theorem dX5_gone_51 : decode cX5_gone 51 = .ok (.iload 5, 2) := by decide +kernel
theorem dX5_gone_53 : decode cX5_gone 53 = .ok (.iload_n 2, 1) := by decide +kernel
theorem dX5_gone_54 : decode cX5_gone 54 = .ok (.if_icmp .ge 30, 3) := by decide +kernel
theorem dX5_gone_57 : decode cX5_gone 57 = .ok (.aload_n 0, 1) := by decide +kernel
theorem dX5_gone_58 : decode cX5_gone 58 = .ok (.getfield 19, 3) := by decide +kernel
theorem dX5_gone_61 : decode cX5_gone 61 = .ok (.iload_n 3, 1) := by decide +kernel
theorem dX5_gone_62 : decode cX5_gone 62 = .ok (.iload 5, 2) := by decide +kernel
theorem dX5_gone_64 : decode cX5_gone 64 = .ok (.invokestatic 193, 3) := by decide +kernel
theorem dX5_gone_67 : decode cX5_gone 67 = .ok (.iconst 1, 1) := by decide +kernel
theorem dX5_gone_68 : decode cX5_gone 68 = .ok (.isub, 1) := by decide +kernel
theorem dX5_gone_69 : decode cX5_gone 69 = .ok (.invokevirtual 104, 3) := by decide +kernel
theorem dX5_gone_72 : decode cX5_gone 72 = .ok (.ifCond .ne 6, 3) := by decide +kernel
theorem dX5_gone_75 : decode cX5_gone 75 = .ok (.bipush (-3), 2) := by decide +kernel
theorem dX5_gone_77 : decode cX5_gone 77 = .ok (.ireturn, 1) := by decide +kernel
theorem dX5_gone_78 : decode cX5_gone 78 = .ok (.iinc 5 1, 3) := by decide +kernel
theorem dX5_gone_81 : decode cX5_gone 81 = .ok (.goto (-30), 3) := by decide +kernel
theorem dX5_gone_84 : decode cX5_gone 84 = .ok (.iconst 0, 1) := by decide +kernel
theorem dX5_gone_85 : decode cX5_gone 85 = .ok (.istore 5, 2) := by decide +kernel
theorem dX5_gone_87 : decode cX5_gone 87 = .ok (.iconst 0, 1) := by decide +kernel
theorem dX5_gone_88 : decode cX5_gone 88 = .ok (.istore 6, 2) := by decide +kernel
theorem dX5_gone_90 : decode cX5_gone 90 = .ok (.iload 6, 2) := by decide +kernel
theorem dX5_gone_92 : decode cX5_gone 92 = .ok (.iload_n 2, 1) := by decide +kernel
theorem dX5_gone_93 : decode cX5_gone 93 = .ok (.if_icmp .gt 32, 3) := by decide +kernel
theorem dX5_gone_96 : decode cX5_gone 96 = .ok (.aload_n 0, 1) := by decide +kernel
theorem dX5_gone_97 : decode cX5_gone 97 = .ok (.iload 6, 2) := by decide +kernel
theorem dX5_gone_99 : decode cX5_gone 99 = .ok (.iload_n 1, 1) := by decide +kernel
theorem dX5_gone_100 : decode cX5_gone 100 = .ok (.iload_n 2, 1) := by decide +kernel
theorem dX5_gone_101 : decode cX5_gone 101 = .ok (.iload_n 3, 1) := by decide +kernel
theorem dX5_gone_102 : decode cX5_gone 102 = .ok (.invokevirtual 206, 3) := by decide +kernel
theorem dX5_gone_105 : decode cX5_gone 105 = .ok (.iload 4, 2) := by decide +kernel
theorem dX5_gone_107 : decode cX5_gone 107 = .ok (.if_icmp .ne 12, 3) := by decide +kernel
theorem dX5_gone_110 : decode cX5_gone 110 = .ok (.iload 5, 2) := by decide +kernel
theorem dX5_gone_112 : decode cX5_gone 112 = .ok (.iconst 1, 1) := by decide +kernel
theorem dX5_gone_113 : decode cX5_gone 113 = .ok (.iload 6, 2) := by decide +kernel
theorem dX5_gone_115 : decode cX5_gone 115 = .ok (.ishl, 1) := by decide +kernel
theorem dX5_gone_116 : decode cX5_gone 116 = .ok (.ior, 1) := by decide +kernel
theorem dX5_gone_117 : decode cX5_gone 117 = .ok (.istore 5, 2) := by decide +kernel
theorem dX5_gone_119 : decode cX5_gone 119 = .ok (.iinc 6 1, 3) := by decide +kernel
theorem dX5_gone_122 : decode cX5_gone 122 = .ok (.goto (-32), 3) := by decide +kernel
theorem dX5_gone_125 : decode cX5_gone 125 = .ok (.iload 5, 2) := by decide +kernel
theorem dX5_gone_127 : decode cX5_gone 127 = .ok (.ireturn, 1) := by decide +kernel
theorem dX5_share_0 : decode cX5_share 0 = .ok (.aload_n 0, 1) := by decide +kernel
theorem dX5_share_1 : decode cX5_share 1 = .ok (.getfield 19, 3) := by decide +kernel
theorem dX5_share_4 : decode cX5_share 4 = .ok (.iload_n 1, 1) := by decide +kernel
theorem dX5_share_5 : decode cX5_share 5 = .ok (.invokevirtual 88, 3) := by decide +kernel
theorem dX5_share_8 : decode cX5_share 8 = .ok (.ifCond .ne 5, 3) := by decide +kernel
theorem dX5_share_11 : decode cX5_share 11 = .ok (.iconst (-1), 1) := by decide +kernel
theorem dX5_share_12 : decode cX5_share 12 = .ok (.ireturn, 1) := by decide +kernel
theorem dX5_share_13 : decode cX5_share 13 = .ok (.iconst 0, 1) := by decide +kernel
theorem dX5_share_14 : decode cX5_share 14 = .ok (.istore_n 3, 1) := by decide +kernel
theorem dX5_share_15 : decode cX5_share 15 = .ok (.iload_n 3, 1) := by decide +kernel
theorem dX5_share_16 : decode cX5_share 16 = .ok (.aload_n 0, 1) := by decide +kernel
theorem dX5_share_17 : decode cX5_share 17 = .ok (.getfield 19, 3) := by decide +kernel
theorem dX5_share_20 : decode cX5_share 20 = .ok (.getfield 85, 3) := by decide +kernel
theorem dX5_share_23 : decode cX5_share 23 = .ok (.if_icmp .ge 20, 3) := by decide +kernel
theorem dX5_share_26 : decode cX5_share 26 = .ok (.aload_n 0, 1) := by decide +kernel
theorem dX5_share_27 : decode cX5_share 27 = .ok (.getfield 55, 3) := by decide +kernel
theorem dX5_share_30 : decode cX5_share 30 = .ok (.iload_n 3, 1) := by decide +kernel
theorem dX5_share_31 : decode cX5_share 31 = .ok (.aload_n 0, 1) := by decide +kernel
theorem dX5_share_32 : decode cX5_share 32 = .ok (.iload_n 3, 1) := by decide +kernel
theorem dX5_share_33 : decode cX5_share 33 = .ok (.invokevirtual 210, 3) := by decide +kernel
theorem dX5_share_36 : decode cX5_share 36 = .ok (.iastore, 1) := by decide +kernel
theorem dX5_share_37 : decode cX5_share 37 = .ok (.iinc 3 1, 3) := by decide +kernel
theorem dX5_share_40 : decode cX5_share 40 = .ok (.goto (-25), 3) := by decide +kernel
theorem dX5_share_43 : decode cX5_share 43 = .ok (.iconst 1, 1) := by decide +kernel
theorem dX5_share_44 : decode cX5_share 44 = .ok (.iload_n 1, 1) := by decide +kernel
theorem dX5_share_45 : decode cX5_share 45 = .ok (.ishl, 1) := by decide +kernel
theorem dX5_share_46 : decode cX5_share 46 = .ok (.istore_n 3, 1) := by decide +kernel
theorem dX5_share_47 : decode cX5_share 47 = .ok (.iconst 0, 1) := by decide +kernel
theorem dX5_share_48 : decode cX5_share 48 = .ok (.istore 4, 2) := by decide +kernel
theorem dX5_share_50 : decode cX5_share 50 = .ok (.iconst 0, 1) := by decide +kernel
theorem dX5_share_51 : decode cX5_share 51 = .ok (.istore 5, 2) := by decide +kernel
theorem dX5_share_53 : decode cX5_share 53 = .ok (.iload 5, 2) := by decide +kernel
theorem dX5_share_55 : decode cX5_share 55 = .ok (.aload_n 0, 1) := by decide +kernel
theorem dX5_share_56 : decode cX5_share 56 = .ok (.getfield 19, 3) := by decide +kernel
theorem dX5_share_59 : decode cX5_share 59 = .ok (.invokevirtual 170, 3) := by decide +kernel
theorem dX5_share_62 : decode cX5_share 62 = .ok (.if_icmp .gt 43, 3) := by decide +kernel
theorem dX5_share_65 : decode cX5_share 65 = .ok (.iload 5, 2) := by decide +kernel
theorem dX5_share_67 : decode cX5_share 67 = .ok (.iload_n 3, 1) := by decide +kernel
theorem dX5_share_68 : decode cX5_share 68 = .ok (.iand, 1) := by decide +kernel
theorem dX5_share_69 : decode cX5_share 69 = .ok (.ifCond .ne 30, 3) := by decide +kernel
theorem dX5_share_72 : decode cX5_share 72 = .ok (.iload 4, 2) := by decide +kernel
theorem dX5_share_74 : decode cX5_share 74 = .ok (.aload_n 0, 1) := by decide +kernel
theorem dX5_share_75 : decode cX5_share 75 = .ok (.iload 5, 2) := by decide +kernel
theorem dX5_share_77 : decode cX5_share 77 = .ok (.invokevirtual 213, 3) := by decide +kernel
theorem dX5_share_80 : decode cX5_share 80 = .ok (.aload_n 0, 1) := by decide +kernel
theorem dX5_share_81 : decode cX5_share 81 = .ok (.iload 5, 2) := by decide +kernel
theorem dX5_share_83 : decode cX5_share 83 = .ok (.iload_n 3, 1) := by decide +kernel
theorem dX5_share_84 : decode cX5_share 84 = .ok (.ior, 1) := by decide +kernel
theorem dX5_share_85 : decode cX5_share 85 = .ok (.invokevirtual 216, 3) := by decide +kernel
theorem dX5_share_88 : decode cX5_share 88 = .ok (.aload_n 0, 1) := by decide +kernel
theorem dX5_share_89 : decode cX5_share 89 = .ok (.iload 5, 2) := by decide +kernel
theorem dX5_share_91 : decode cX5_share 91 = .ok (.invokevirtual 216, 3) := by decide +kernel
theorem dX5_share_94 : decode cX5_share 94 = .ok (.isub, 1) := by decide +kernel
theorem dX5_share_95 : decode cX5_share 95 = .ok (.imul, 1) := by decide +kernel
theorem dX5_share_96 : decode cX5_share 96 = .ok (.iadd, 1) := by decide +kernel
theorem dX5_share_97 : decode cX5_share 97 = .ok (.istore 4, 2) := by decide +kernel
theorem dX5_share_99 : decode cX5_share 99 = .ok (.iinc 5 1, 3) := by decide +kernel
theorem dX5_share_102 : decode cX5_share 102 = .ok (.goto (-49), 3) := by decide +kernel
theorem dX5_share_105 : decode cX5_share 105 = .ok (.iload 4, 2) := by decide +kernel
theorem dX5_share_107 : decode cX5_share 107 = .ok (.aload_n 0, 1) := by decide +kernel
theorem dX5_share_108 : decode cX5_share 108 = .ok (.getfield 19, 3) := by decide +kernel
theorem dX5_share_111 : decode cX5_share 111 = .ok (.getfield 82, 3) := by decide +kernel
theorem dX5_share_114 : decode cX5_share 114 = .ok (.invokestatic 219, 3) := by decide +kernel
theorem dX5_share_117 : decode cX5_share 117 = .ok (.iload_n 2, 1) := by decide +kernel
theorem dX5_share_118 : decode cX5_share 118 = .ok (.invokestatic 222, 3) := by decide +kernel
theorem dX5_share_121 : decode cX5_share 121 = .ok (.ireturn, 1) := by decide +kernel
theorem dX5_rests_0 : decode cX5_rests 0 = .ok (.aload_n 0, 1) := by decide +kernel
theorem dX5_rests_1 : decode cX5_rests 1 = .ok (.getfield 19, 3) := by decide +kernel
theorem dX5_rests_4 : decode cX5_rests 4 = .ok (.iload_n 1, 1) := by decide +kernel
theorem dX5_rests_5 : decode cX5_rests 5 = .ok (.iload_n 3, 1) := by decide +kernel
theorem dX5_rests_6 : decode cX5_rests 6 = .ok (.invokevirtual 123, 3) := by decide +kernel
theorem dX5_rests_9 : decode cX5_rests 9 = .ok (.ifCond .eq 14, 3) := by decide +kernel
theorem dX5_rests_12 : decode cX5_rests 12 = .ok (.aload_n 0, 1) := by decide +kernel
theorem dX5_rests_13 : decode cX5_rests 13 = .ok (.getfield 19, 3) := by decide +kernel
theorem dX5_rests_16 : decode cX5_rests 16 = .ok (.iload_n 2, 1) := by decide +kernel
theorem dX5_rests_17 : decode cX5_rests 17 = .ok (.invokevirtual 88, 3) := by decide +kernel
theorem dX5_rests_20 : decode cX5_rests 20 = .ok (.ifCond .ne 5, 3) := by decide +kernel
theorem dX5_rests_23 : decode cX5_rests 23 = .ok (.iconst (-1), 1) := by decide +kernel
theorem dX5_rests_24 : decode cX5_rests 24 = .ok (.ireturn, 1) := by decide +kernel
theorem dX5_rests_25 : decode cX5_rests 25 = .ok (.iload_n 1, 1) := by decide +kernel
theorem dX5_rests_26 : decode cX5_rests 26 = .ok (.iload_n 2, 1) := by decide +kernel
theorem dX5_rests_27 : decode cX5_rests 27 = .ok (.if_icmp .eq 14, 3) := by decide +kernel
theorem dX5_rests_30 : decode cX5_rests 30 = .ok (.iload 4, 2) := by decide +kernel
theorem dX5_rests_32 : decode cX5_rests 32 = .ok (.ifCond .lt 9, 3) := by decide +kernel
theorem dX5_rests_35 : decode cX5_rests 35 = .ok (.iload 4, 2) := by decide +kernel
theorem dX5_rests_37 : decode cX5_rests 37 = .ok (.iconst 1, 1) := by decide +kernel
theorem dX5_rests_38 : decode cX5_rests 38 = .ok (.if_icmp .le 6, 3) := by decide +kernel
theorem dX5_rests_41 : decode cX5_rests 41 = .ok (.bipush (-2), 2) := by decide +kernel
theorem dX5_rests_43 : decode cX5_rests 43 = .ok (.ireturn, 1) := by decide +kernel
theorem dX5_rests_44 : decode cX5_rests 44 = .ok (.aload_n 0, 1) := by decide +kernel
theorem dX5_rests_45 : decode cX5_rests 45 = .ok (.iload_n 3, 1) := by decide +kernel
theorem dX5_rests_46 : decode cX5_rests 46 = .ok (.invokevirtual 210, 3) := by decide +kernel
theorem dX5_rests_49 : decode cX5_rests 49 = .ok (.iload_n 1, 1) := by decide +kernel
theorem dX5_rests_50 : decode cX5_rests 50 = .ok (.ishr, 1) := by decide +kernel
theorem dX5_rests_51 : decode cX5_rests 51 = .ok (.iconst 1, 1) := by decide +kernel
theorem dX5_rests_52 : decode cX5_rests 52 = .ok (.iand, 1) := by decide +kernel
theorem dX5_rests_53 : decode cX5_rests 53 = .ok (.iconst 1, 1) := by decide +kernel
theorem dX5_rests_54 : decode cX5_rests 54 = .ok (.if_icmp .ne 7, 3) := by decide +kernel
theorem dX5_rests_57 : decode cX5_rests 57 = .ok (.iconst 1, 1) := by decide +kernel
theorem dX5_rests_58 : decode cX5_rests 58 = .ok (.goto 4, 3) := by decide +kernel
theorem dX5_rests_61 : decode cX5_rests 61 = .ok (.iconst 0, 1) := by decide +kernel
theorem dX5_rests_62 : decode cX5_rests 62 = .ok (.istore 5, 2) := by decide +kernel
theorem dX5_rests_64 : decode cX5_rests 64 = .ok (.aload_n 0, 1) := by decide +kernel
theorem dX5_rests_65 : decode cX5_rests 65 = .ok (.iload_n 3, 1) := by decide +kernel
theorem dX5_rests_66 : decode cX5_rests 66 = .ok (.invokevirtual 210, 3) := by decide +kernel
theorem dX5_rests_69 : decode cX5_rests 69 = .ok (.iload_n 2, 1) := by decide +kernel
theorem dX5_rests_70 : decode cX5_rests 70 = .ok (.ishr, 1) := by decide +kernel
theorem dX5_rests_71 : decode cX5_rests 71 = .ok (.iconst 1, 1) := by decide +kernel
theorem dX5_rests_72 : decode cX5_rests 72 = .ok (.iand, 1) := by decide +kernel
theorem dX5_rests_73 : decode cX5_rests 73 = .ok (.iconst 1, 1) := by decide +kernel
theorem dX5_rests_74 : decode cX5_rests 74 = .ok (.if_icmp .ne 7, 3) := by decide +kernel
theorem dX5_rests_77 : decode cX5_rests 77 = .ok (.iconst 1, 1) := by decide +kernel
theorem dX5_rests_78 : decode cX5_rests 78 = .ok (.goto 4, 3) := by decide +kernel
theorem dX5_rests_81 : decode cX5_rests 81 = .ok (.iconst 0, 1) := by decide +kernel
theorem dX5_rests_82 : decode cX5_rests 82 = .ok (.istore 6, 2) := by decide +kernel
theorem dX5_rests_84 : decode cX5_rests 84 = .ok (.iconst 0, 1) := by decide +kernel
theorem dX5_rests_85 : decode cX5_rests 85 = .ok (.istore 7, 2) := by decide +kernel
theorem dX5_rests_87 : decode cX5_rests 87 = .ok (.bipush (-9), 2) := by decide +kernel
theorem dX5_rests_89 : decode cX5_rests 89 = .ok (.istore 8, 2) := by decide +kernel
theorem dX5_rests_91 : decode cX5_rests 91 = .ok (.iconst 0, 1) := by decide +kernel
theorem dX5_rests_92 : decode cX5_rests 92 = .ok (.istore 9, 2) := by decide +kernel
theorem dX5_rests_94 : decode cX5_rests 94 = .ok (.iload 9, 2) := by decide +kernel
theorem dX5_rests_96 : decode cX5_rests 96 = .ok (.iconst 1, 1) := by decide +kernel
theorem dX5_rests_97 : decode cX5_rests 97 = .ok (.if_icmp .gt 75, 3) := by decide +kernel
theorem dX5_rests_100 : decode cX5_rests 100 = .ok (.iconst 0, 1) := by decide +kernel
theorem dX5_rests_101 : decode cX5_rests 101 = .ok (.istore 10, 2) := by decide +kernel
theorem dX5_rests_103 : decode cX5_rests 103 = .ok (.iload 10, 2) := by decide +kernel
theorem dX5_rests_105 : decode cX5_rests 105 = .ok (.iconst 1, 1) := by decide +kernel
theorem dX5_rests_106 : decode cX5_rests 106 = .ok (.if_icmp .gt 60, 3) := by decide +kernel
theorem dX5_rests_109 : decode cX5_rests 109 = .ok (.iload 9, 2) := by decide +kernel
theorem dX5_rests_111 : decode cX5_rests 111 = .ok (.iload 10, 2) := by decide +kernel
theorem dX5_rests_113 : decode cX5_rests 113 = .ok (.iload 5, 2) := by decide +kernel
theorem dX5_rests_115 : decode cX5_rests 115 = .ok (.iload 6, 2) := by decide +kernel
theorem dX5_rests_117 : decode cX5_rests 117 = .ok (.invokestatic 226, 3) := by decide +kernel
theorem dX5_rests_120 : decode cX5_rests 120 = .ok (.ifCond .eq 40, 3) := by decide +kernel
theorem dX5_rests_123 : decode cX5_rests 123 = .ok (.iload 10, 2) := by decide +kernel
theorem dX5_rests_125 : decode cX5_rests 125 = .ok (.iload 9, 2) := by decide +kernel
theorem dX5_rests_127 : decode cX5_rests 127 = .ok (.iload 6, 2) := by decide +kernel
theorem dX5_rests_129 : decode cX5_rests 129 = .ok (.iload 5, 2) := by decide +kernel
theorem dX5_rests_131 : decode cX5_rests 131 = .ok (.invokestatic 226, 3) := by decide +kernel
theorem dX5_rests_134 : decode cX5_rests 134 = .ok (.ifCond .eq 26, 3) := by decide +kernel
theorem dX5_rests_137 : decode cX5_rests 137 = .ok (.iload 7, 2) := by decide +kernel
theorem dX5_rests_139 : decode cX5_rests 139 = .ok (.ifCond .ne 14, 3) := by decide +kernel
theorem dX5_rests_142 : decode cX5_rests 142 = .ok (.bipush 10, 2) := by decide +kernel
theorem dX5_rests_144 : decode cX5_rests 144 = .ok (.iload 9, 2) := by decide +kernel
theorem dX5_rests_146 : decode cX5_rests 146 = .ok (.imul, 1) := by decide +kernel
theorem dX5_rests_147 : decode cX5_rests 147 = .ok (.iload 10, 2) := by decide +kernel
theorem dX5_rests_149 : decode cX5_rests 149 = .ok (.iadd, 1) := by decide +kernel
theorem dX5_rests_150 : decode cX5_rests 150 = .ok (.goto 5, 3) := by decide +kernel
theorem dX5_rests_153 : decode cX5_rests 153 = .ok (.iload 8, 2) := by decide +kernel
theorem dX5_rests_155 : decode cX5_rests 155 = .ok (.istore 8, 2) := by decide +kernel
theorem dX5_rests_157 : decode cX5_rests 157 = .ok (.iinc 7 1, 3) := by decide +kernel
theorem dX5_rests_160 : decode cX5_rests 160 = .ok (.iinc 10 1, 3) := by decide +kernel
theorem dX5_rests_163 : decode cX5_rests 163 = .ok (.goto (-60), 3) := by decide +kernel
theorem dX5_rests_166 : decode cX5_rests 166 = .ok (.iinc 9 1, 3) := by decide +kernel
theorem dX5_rests_169 : decode cX5_rests 169 = .ok (.goto (-75), 3) := by decide +kernel
theorem dX5_rests_172 : decode cX5_rests 172 = .ok (.iload 4, 2) := by decide +kernel
theorem dX5_rests_174 : decode cX5_rests 174 = .ok (.ifCond .ne 8, 3) := by decide +kernel
theorem dX5_rests_177 : decode cX5_rests 177 = .ok (.iload 7, 2) := by decide +kernel
theorem dX5_rests_179 : decode cX5_rests 179 = .ok (.goto 5, 3) := by decide +kernel
theorem dX5_rests_182 : decode cX5_rests 182 = .ok (.iload 8, 2) := by decide +kernel
theorem dX5_rests_184 : decode cX5_rests 184 = .ok (.ireturn, 1) := by decide +kernel
theorem dX5_flicker_0 : decode cX5_flicker 0 = .ok (.aload_n 0, 1) := by decide +kernel
theorem dX5_flicker_1 : decode cX5_flicker 1 = .ok (.getfield 19, 3) := by decide +kernel
theorem dX5_flicker_4 : decode cX5_flicker 4 = .ok (.iload_n 1, 1) := by decide +kernel
theorem dX5_flicker_5 : decode cX5_flicker 5 = .ok (.invokevirtual 104, 3) := by decide +kernel
theorem dX5_flicker_8 : decode cX5_flicker 8 = .ok (.ifCond .ne 5, 3) := by decide +kernel
theorem dX5_flicker_11 : decode cX5_flicker 11 = .ok (.iconst (-1), 1) := by decide +kernel
theorem dX5_flicker_12 : decode cX5_flicker 12 = .ok (.ireturn, 1) := by decide +kernel
theorem dX5_flicker_13 : decode cX5_flicker 13 = .ok (.iload_n 2, 1) := by decide +kernel
theorem dX5_flicker_14 : decode cX5_flicker 14 = .ok (.ifCond .lt 18, 3) := by decide +kernel
theorem dX5_flicker_17 : decode cX5_flicker 17 = .ok (.iload_n 2, 1) := by decide +kernel
theorem dX5_flicker_18 : decode cX5_flicker 18 = .ok (.iconst 5, 1) := by decide +kernel
theorem dX5_flicker_19 : decode cX5_flicker 19 = .ok (.if_icmp .gt 13, 3) := by decide +kernel
theorem dX5_flicker_22 : decode cX5_flicker 22 = .ok (.iload_n 3, 1) := by decide +kernel
theorem dX5_flicker_23 : decode cX5_flicker 23 = .ok (.ifCond .lt 9, 3) := by decide +kernel
theorem dX5_flicker_26 : decode cX5_flicker 26 = .ok (.iload_n 3, 1) := by decide +kernel
theorem dX5_flicker_27 : decode cX5_flicker 27 = .ok (.bipush 10, 2) := by decide +kernel
theorem dX5_flicker_29 : decode cX5_flicker 29 = .ok (.if_icmp .le 6, 3) := by decide +kernel
theorem dX5_flicker_32 : decode cX5_flicker 32 = .ok (.bipush (-2), 2) := by decide +kernel
theorem dX5_flicker_34 : decode cX5_flicker 34 = .ok (.ireturn, 1) := by decide +kernel
theorem dX5_flicker_35 : decode cX5_flicker 35 = .ok (.iconst 0, 1) := by decide +kernel
theorem dX5_flicker_36 : decode cX5_flicker 36 = .ok (.istore 5, 2) := by decide +kernel
theorem dX5_flicker_38 : decode cX5_flicker 38 = .ok (.iload 5, 2) := by decide +kernel
theorem dX5_flicker_40 : decode cX5_flicker 40 = .ok (.aload_n 0, 1) := by decide +kernel
theorem dX5_flicker_41 : decode cX5_flicker 41 = .ok (.getfield 59, 3) := by decide +kernel
theorem dX5_flicker_44 : decode cX5_flicker 44 = .ok (.arraylength, 1) := by decide +kernel
theorem dX5_flicker_45 : decode cX5_flicker 45 = .ok (.if_icmp .ge 26, 3) := by decide +kernel
theorem dX5_flicker_48 : decode cX5_flicker 48 = .ok (.aload_n 0, 1) := by decide +kernel
theorem dX5_flicker_49 : decode cX5_flicker 49 = .ok (.getfield 59, 3) := by decide +kernel
theorem dX5_flicker_52 : decode cX5_flicker 52 = .ok (.iload 5, 2) := by decide +kernel
theorem dX5_flicker_54 : decode cX5_flicker 54 = .ok (.iload 5, 2) := by decide +kernel
theorem dX5_flicker_56 : decode cX5_flicker 56 = .ok (.ifCond .ne 7, 3) := by decide +kernel
theorem dX5_flicker_59 : decode cX5_flicker 59 = .ok (.iconst 1, 1) := by decide +kernel
theorem dX5_flicker_60 : decode cX5_flicker 60 = .ok (.goto 4, 3) := by decide +kernel
theorem dX5_flicker_63 : decode cX5_flicker 63 = .ok (.iconst 0, 1) := by decide +kernel
theorem dX5_flicker_64 : decode cX5_flicker 64 = .ok (.iastore, 1) := by decide +kernel
theorem dX5_flicker_65 : decode cX5_flicker 65 = .ok (.iinc 5 1, 3) := by decide +kernel
theorem dX5_flicker_68 : decode cX5_flicker 68 = .ok (.goto (-30), 3) := by decide +kernel
theorem dX5_flicker_71 : decode cX5_flicker 71 = .ok (.iconst 1, 1) := by decide +kernel
theorem dX5_flicker_72 : decode cX5_flicker 72 = .ok (.istore 5, 2) := by decide +kernel
theorem dX5_flicker_74 : decode cX5_flicker 74 = .ok (.iconst 0, 1) := by decide +kernel
theorem dX5_flicker_75 : decode cX5_flicker 75 = .ok (.istore 6, 2) := by decide +kernel
theorem dX5_flicker_77 : decode cX5_flicker 77 = .ok (.iload 6, 2) := by decide +kernel
theorem dX5_flicker_79 : decode cX5_flicker 79 = .ok (.aload_n 0, 1) := by decide +kernel
theorem dX5_flicker_80 : decode cX5_flicker 80 = .ok (.getfield 19, 3) := by decide +kernel
theorem dX5_flicker_83 : decode cX5_flicker 83 = .ok (.getfield 82, 3) := by decide +kernel
theorem dX5_flicker_86 : decode cX5_flicker 86 = .ok (.if_icmp .ge 28, 3) := by decide +kernel
theorem dX5_flicker_89 : decode cX5_flicker 89 = .ok (.aload_n 0, 1) := by decide +kernel
theorem dX5_flicker_90 : decode cX5_flicker 90 = .ok (.aload_n 0, 1) := by decide +kernel
theorem dX5_flicker_91 : decode cX5_flicker 91 = .ok (.iload 6, 2) := by decide +kernel
theorem dX5_flicker_93 : decode cX5_flicker 93 = .ok (.iload_n 1, 1) := by decide +kernel
theorem dX5_flicker_94 : decode cX5_flicker 94 = .ok (.iload_n 3, 1) := by decide +kernel
theorem dX5_flicker_95 : decode cX5_flicker 95 = .ok (.invokevirtual 229, 3) := by decide +kernel
theorem dX5_flicker_98 : decode cX5_flicker 98 = .ok (.invokevirtual 233, 3) := by decide +kernel
theorem dX5_flicker_101 : decode cX5_flicker 101 = .ok (.iload 5, 2) := by decide +kernel
theorem dX5_flicker_103 : decode cX5_flicker 103 = .ok (.bipush 10, 2) := by decide +kernel
theorem dX5_flicker_105 : decode cX5_flicker 105 = .ok (.imul, 1) := by decide +kernel
theorem dX5_flicker_106 : decode cX5_flicker 106 = .ok (.istore 5, 2) := by decide +kernel
theorem dX5_flicker_108 : decode cX5_flicker 108 = .ok (.iinc 6 1, 3) := by decide +kernel
theorem dX5_flicker_111 : decode cX5_flicker 111 = .ok (.goto (-34), 3) := by decide +kernel
theorem dX5_flicker_114 : decode cX5_flicker 114 = .ok (.iconst 0, 1) := by decide +kernel
theorem dX5_flicker_115 : decode cX5_flicker 115 = .ok (.istore 6, 2) := by decide +kernel
theorem dX5_flicker_117 : decode cX5_flicker 117 = .ok (.iload_n 2, 1) := by decide +kernel
theorem dX5_flicker_118 : decode cX5_flicker 118 = .ok (.istore 7, 2) := by decide +kernel
theorem dX5_flicker_120 : decode cX5_flicker 120 = .ok (.iload 7, 2) := by decide +kernel
theorem dX5_flicker_122 : decode cX5_flicker 122 = .ok (.aload_n 0, 1) := by decide +kernel
theorem dX5_flicker_123 : decode cX5_flicker 123 = .ok (.getfield 59, 3) := by decide +kernel
theorem dX5_flicker_126 : decode cX5_flicker 126 = .ok (.arraylength, 1) := by decide +kernel
theorem dX5_flicker_127 : decode cX5_flicker 127 = .ok (.if_icmp .ge 21, 3) := by decide +kernel
theorem dX5_flicker_130 : decode cX5_flicker 130 = .ok (.iload 6, 2) := by decide +kernel
theorem dX5_flicker_132 : decode cX5_flicker 132 = .ok (.aload_n 0, 1) := by decide +kernel
theorem dX5_flicker_133 : decode cX5_flicker 133 = .ok (.getfield 59, 3) := by decide +kernel
theorem dX5_flicker_136 : decode cX5_flicker 136 = .ok (.iload 7, 2) := by decide +kernel
theorem dX5_flicker_138 : decode cX5_flicker 138 = .ok (.iaload, 1) := by decide +kernel
theorem dX5_flicker_139 : decode cX5_flicker 139 = .ok (.iadd, 1) := by decide +kernel
theorem dX5_flicker_140 : decode cX5_flicker 140 = .ok (.istore 6, 2) := by decide +kernel
theorem dX5_flicker_142 : decode cX5_flicker 142 = .ok (.iinc 7 1, 3) := by decide +kernel
theorem dX5_flicker_145 : decode cX5_flicker 145 = .ok (.goto (-25), 3) := by decide +kernel
theorem dX5_flicker_148 : decode cX5_flicker 148 = .ok (.iload 6, 2) := by decide +kernel
theorem dX5_flicker_150 : decode cX5_flicker 150 = .ok (.iload 5, 2) := by decide +kernel
theorem dX5_flicker_152 : decode cX5_flicker 152 = .ok (.iload 4, 2) := by decide +kernel
theorem dX5_flicker_154 : decode cX5_flicker 154 = .ok (.invokestatic 222, 3) := by decide +kernel
theorem dX5_flicker_157 : decode cX5_flicker 157 = .ok (.ireturn, 1) := by decide +kernel
theorem dX5_seed_0 : decode cX5_seed 0 = .ok (.aload_n 0, 1) := by decide +kernel
theorem dX5_seed_1 : decode cX5_seed 1 = .ok (.getfield 236, 3) := by decide +kernel
theorem dX5_seed_4 : decode cX5_seed 4 = .ok (.lstore_n 3, 1) := by decide +kernel
theorem dX5_seed_5 : decode cX5_seed 5 = .ok (.aload_n 0, 1) := by decide +kernel
theorem dX5_seed_6 : decode cX5_seed 6 = .ok (.lload_n 1, 1) := by decide +kernel
theorem dX5_seed_7 : decode cX5_seed 7 = .ok (.putfield 236, 3) := by decide +kernel
theorem dX5_seed_10 : decode cX5_seed 10 = .ok (.lload_n 3, 1) := by decide +kernel
theorem dX5_seed_11 : decode cX5_seed 11 = .ok (.lreturn, 1) := by decide +kernel
theorem dX5_winters_0 : decode cX5_winters 0 = .ok (.iload_n 1, 1) := by decide +kernel
theorem dX5_winters_1 : decode cX5_winters 1 = .ok (.iconst 1, 1) := by decide +kernel
theorem dX5_winters_2 : decode cX5_winters 2 = .ok (.if_icmp .lt 9, 3) := by decide +kernel
theorem dX5_winters_5 : decode cX5_winters 5 = .ok (.iload_n 1, 1) := by decide +kernel
theorem dX5_winters_6 : decode cX5_winters 6 = .ok (.bipush 30, 2) := by decide +kernel
theorem dX5_winters_8 : decode cX5_winters 8 = .ok (.if_icmp .le 6, 3) := by decide +kernel
theorem dX5_winters_11 : decode cX5_winters 11 = .ok (.bipush (-2), 2) := by decide +kernel
theorem dX5_winters_13 : decode cX5_winters 13 = .ok (.ireturn, 1) := by decide +kernel
theorem dX5_winters_14 : decode cX5_winters 14 = .ok (.aload_n 0, 1) := by decide +kernel
theorem dX5_winters_15 : decode cX5_winters 15 = .ok (.getfield 52, 3) := by decide +kernel
theorem dX5_winters_18 : decode cX5_winters 18 = .ok (.aload_n 0, 1) := by decide +kernel
theorem dX5_winters_19 : decode cX5_winters 19 = .ok (.getfield 26, 3) := by decide +kernel
theorem dX5_winters_22 : decode cX5_winters 22 = .ok (.invokevirtual 190, 3) := by decide +kernel
theorem dX5_winters_25 : decode cX5_winters 25 = .ok (.iconst 0, 1) := by decide +kernel
theorem dX5_winters_26 : decode cX5_winters 26 = .ok (.istore_n 2, 1) := by decide +kernel
theorem dX5_winters_27 : decode cX5_winters 27 = .ok (.iload_n 2, 1) := by decide +kernel
theorem dX5_winters_28 : decode cX5_winters 28 = .ok (.iload_n 1, 1) := by decide +kernel
theorem dX5_winters_29 : decode cX5_winters 29 = .ok (.if_icmp .ge 41, 3) := by decide +kernel
theorem dX5_winters_32 : decode cX5_winters 32 = .ok (.aload_n 0, 1) := by decide +kernel
theorem dX5_winters_33 : decode cX5_winters 33 = .ok (.aload_n 0, 1) := by decide +kernel
theorem dX5_winters_34 : decode cX5_winters 34 = .ok (.getfield 236, 3) := by decide +kernel
theorem dX5_winters_37 : decode cX5_winters 37 = .ok (.ldc2_w 240, 3) := by decide +kernel
theorem dX5_winters_40 : decode cX5_winters 40 = .ok (.lmul, 1) := by decide +kernel
theorem dX5_winters_41 : decode cX5_winters 41 = .ok (.ldc2_w 242, 3) := by decide +kernel
theorem dX5_winters_44 : decode cX5_winters 44 = .ok (.ladd, 1) := by decide +kernel
theorem dX5_winters_45 : decode cX5_winters 45 = .ok (.putfield 236, 3) := by decide +kernel
theorem dX5_winters_48 : decode cX5_winters 48 = .ok (.aload_n 0, 1) := by decide +kernel
theorem dX5_winters_49 : decode cX5_winters 49 = .ok (.aload_n 0, 1) := by decide +kernel
theorem dX5_winters_50 : decode cX5_winters 50 = .ok (.getfield 236, 3) := by decide +kernel
theorem dX5_winters_53 : decode cX5_winters 53 = .ok (.bipush 33, 2) := by decide +kernel
theorem dX5_winters_55 : decode cX5_winters 55 = .ok (.lushr, 1) := by decide +kernel
theorem dX5_winters_56 : decode cX5_winters 56 = .ok (.ldc2_w 244, 3) := by decide +kernel
theorem dX5_winters_59 : decode cX5_winters 59 = .ok (.lrem, 1) := by decide +kernel
theorem dX5_winters_60 : decode cX5_winters 60 = .ok (.l2i, 1) := by decide +kernel
theorem dX5_winters_61 : decode cX5_winters 61 = .ok (.invokevirtual 246, 3) := by decide +kernel
theorem dX5_winters_64 : decode cX5_winters 64 = .ok (.iinc 2 1, 3) := by decide +kernel
theorem dX5_winters_67 : decode cX5_winters 67 = .ok (.goto (-40), 3) := by decide +kernel
theorem dX5_winters_70 : decode cX5_winters 70 = .ok (.aload_n 0, 1) := by decide +kernel
theorem dX5_winters_71 : decode cX5_winters 71 = .ok (.getfield 52, 3) := by decide +kernel
theorem dX5_winters_74 : decode cX5_winters 74 = .ok (.aload_n 0, 1) := by decide +kernel
theorem dX5_winters_75 : decode cX5_winters 75 = .ok (.getfield 19, 3) := by decide +kernel
theorem dX5_winters_78 : decode cX5_winters 78 = .ok (.invokevirtual 249, 3) := by decide +kernel
theorem dX5_winters_81 : decode cX5_winters 81 = .ok (.ireturn, 1) := by decide +kernel
theorem dX5_keep_0 : decode cX5_keep 0 = .ok (.iload_n 1, 1) := by decide +kernel
theorem dX5_keep_1 : decode cX5_keep 1 = .ok (.ifCond .lt 8, 3) := by decide +kernel
theorem dX5_keep_4 : decode cX5_keep 4 = .ok (.iload_n 1, 1) := by decide +kernel
theorem dX5_keep_5 : decode cX5_keep 5 = .ok (.iconst 2, 1) := by decide +kernel
theorem dX5_keep_6 : decode cX5_keep 6 = .ok (.if_icmp .lt 5, 3) := by decide +kernel
theorem dX5_keep_9 : decode cX5_keep 9 = .ok (.iconst (-1), 1) := by decide +kernel
theorem dX5_keep_10 : decode cX5_keep 10 = .ok (.ireturn, 1) := by decide +kernel
theorem dX5_keep_11 : decode cX5_keep 11 = .ok (.aload_n 0, 1) := by decide +kernel
theorem dX5_keep_12 : decode cX5_keep 12 = .ok (.getfield 44, 3) := by decide +kernel
theorem dX5_keep_15 : decode cX5_keep 15 = .ok (.iload_n 1, 1) := by decide +kernel
theorem dX5_keep_16 : decode cX5_keep 16 = .ok (.aaload, 1) := by decide +kernel
theorem dX5_keep_17 : decode cX5_keep 17 = .ok (.aload_n 0, 1) := by decide +kernel
theorem dX5_keep_18 : decode cX5_keep 18 = .ok (.getfield 26, 3) := by decide +kernel
theorem dX5_keep_21 : decode cX5_keep 21 = .ok (.invokevirtual 190, 3) := by decide +kernel
theorem dX5_keep_24 : decode cX5_keep 24 = .ok (.aload_n 0, 1) := by decide +kernel
theorem dX5_keep_25 : decode cX5_keep 25 = .ok (.getfield 48, 3) := by decide +kernel
theorem dX5_keep_28 : decode cX5_keep 28 = .ok (.iload_n 1, 1) := by decide +kernel
theorem dX5_keep_29 : decode cX5_keep 29 = .ok (.iconst 1, 1) := by decide +kernel
theorem dX5_keep_30 : decode cX5_keep 30 = .ok (.bastore, 1) := by decide +kernel
theorem dX5_keep_31 : decode cX5_keep 31 = .ok (.aload_n 0, 1) := by decide +kernel
theorem dX5_keep_32 : decode cX5_keep 32 = .ok (.getfield 26, 3) := by decide +kernel
theorem dX5_keep_35 : decode cX5_keep 35 = .ok (.invokevirtual 253, 3) := by decide +kernel
theorem dX5_keep_38 : decode cX5_keep 38 = .ok (.ireturn, 1) := by decide +kernel
theorem dX5_again_0 : decode cX5_again 0 = .ok (.iload_n 1, 1) := by decide +kernel
theorem dX5_again_1 : decode cX5_again 1 = .ok (.ifCond .lt 8, 3) := by decide +kernel
theorem dX5_again_4 : decode cX5_again 4 = .ok (.iload_n 1, 1) := by decide +kernel
theorem dX5_again_5 : decode cX5_again 5 = .ok (.iconst 2, 1) := by decide +kernel
theorem dX5_again_6 : decode cX5_again 6 = .ok (.if_icmp .lt 5, 3) := by decide +kernel
theorem dX5_again_9 : decode cX5_again 9 = .ok (.iconst (-1), 1) := by decide +kernel
theorem dX5_again_10 : decode cX5_again 10 = .ok (.ireturn, 1) := by decide +kernel
theorem dX5_again_11 : decode cX5_again 11 = .ok (.aload_n 0, 1) := by decide +kernel
theorem dX5_again_12 : decode cX5_again 12 = .ok (.getfield 48, 3) := by decide +kernel
theorem dX5_again_15 : decode cX5_again 15 = .ok (.iload_n 1, 1) := by decide +kernel
theorem dX5_again_16 : decode cX5_again 16 = .ok (.baload, 1) := by decide +kernel
theorem dX5_again_17 : decode cX5_again 17 = .ok (.ifCond .ne 6, 3) := by decide +kernel
theorem dX5_again_20 : decode cX5_again 20 = .ok (.bipush (-3), 2) := by decide +kernel
theorem dX5_again_22 : decode cX5_again 22 = .ok (.ireturn, 1) := by decide +kernel
theorem dX5_again_23 : decode cX5_again 23 = .ok (.aload_n 0, 1) := by decide +kernel
theorem dX5_again_24 : decode cX5_again 24 = .ok (.getfield 26, 3) := by decide +kernel
theorem dX5_again_27 : decode cX5_again 27 = .ok (.aload_n 0, 1) := by decide +kernel
theorem dX5_again_28 : decode cX5_again 28 = .ok (.getfield 44, 3) := by decide +kernel
theorem dX5_again_31 : decode cX5_again 31 = .ok (.iload_n 1, 1) := by decide +kernel
theorem dX5_again_32 : decode cX5_again 32 = .ok (.aaload, 1) := by decide +kernel
theorem dX5_again_33 : decode cX5_again 33 = .ok (.invokevirtual 190, 3) := by decide +kernel
theorem dX5_again_36 : decode cX5_again 36 = .ok (.aload_n 0, 1) := by decide +kernel
theorem dX5_again_37 : decode cX5_again 37 = .ok (.getfield 33, 3) := by decide +kernel
theorem dX5_again_40 : decode cX5_again 40 = .ok (.invokevirtual 81, 3) := by decide +kernel
theorem dX5_again_43 : decode cX5_again 43 = .ok (.aload_n 0, 1) := by decide +kernel
theorem dX5_again_44 : decode cX5_again 44 = .ok (.getfield 26, 3) := by decide +kernel
theorem dX5_again_47 : decode cX5_again 47 = .ok (.invokevirtual 253, 3) := by decide +kernel
theorem dX5_again_50 : decode cX5_again 50 = .ok (.ireturn, 1) := by decide +kernel
theorem dX5_count_0 : decode cX5_count 0 = .ok (.iload_n 1, 1) := by decide +kernel
theorem dX5_count_1 : decode cX5_count 1 = .ok (.tableswitch 143 0 8 #[51, 59, 67, 75, 91, 107, 115, 127, 135], 51) := by decide +kernel
theorem dX5_count_52 : decode cX5_count 52 = .ok (.aload_n 0, 1) := by decide +kernel
theorem dX5_count_53 : decode cX5_count 53 = .ok (.getfield 10, 3) := by decide +kernel
theorem dX5_count_56 : decode cX5_count 56 = .ok (.getfield 66, 3) := by decide +kernel
theorem dX5_count_59 : decode cX5_count 59 = .ok (.ireturn, 1) := by decide +kernel
theorem dX5_count_60 : decode cX5_count 60 = .ok (.aload_n 0, 1) := by decide +kernel
theorem dX5_count_61 : decode cX5_count 61 = .ok (.getfield 19, 3) := by decide +kernel
theorem dX5_count_64 : decode cX5_count 64 = .ok (.getfield 82, 3) := by decide +kernel
theorem dX5_count_67 : decode cX5_count 67 = .ok (.ireturn, 1) := by decide +kernel
theorem dX5_count_68 : decode cX5_count 68 = .ok (.aload_n 0, 1) := by decide +kernel
theorem dX5_count_69 : decode cX5_count 69 = .ok (.getfield 19, 3) := by decide +kernel
theorem dX5_count_72 : decode cX5_count 72 = .ok (.getfield 85, 3) := by decide +kernel
theorem dX5_count_75 : decode cX5_count 75 = .ok (.ireturn, 1) := by decide +kernel
theorem dX5_count_76 : decode cX5_count 76 = .ok (.aload_n 0, 1) := by decide +kernel
theorem dX5_count_77 : decode cX5_count 77 = .ok (.getfield 26, 3) := by decide +kernel
theorem dX5_count_80 : decode cX5_count 80 = .ok (.getfield 153, 3) := by decide +kernel
theorem dX5_count_83 : decode cX5_count 83 = .ok (.ifCond .eq 7, 3) := by decide +kernel
theorem dX5_count_86 : decode cX5_count 86 = .ok (.iconst 1, 1) := by decide +kernel
theorem dX5_count_87 : decode cX5_count 87 = .ok (.goto 4, 3) := by decide +kernel
theorem dX5_count_90 : decode cX5_count 90 = .ok (.iconst 0, 1) := by decide +kernel
theorem dX5_count_91 : decode cX5_count 91 = .ok (.ireturn, 1) := by decide +kernel
theorem dX5_count_92 : decode cX5_count 92 = .ok (.aload_n 0, 1) := by decide +kernel
theorem dX5_count_93 : decode cX5_count 93 = .ok (.getfield 26, 3) := by decide +kernel
theorem dX5_count_96 : decode cX5_count 96 = .ok (.getfield 157, 3) := by decide +kernel
theorem dX5_count_99 : decode cX5_count 99 = .ok (.ifCond .eq 7, 3) := by decide +kernel
theorem dX5_count_102 : decode cX5_count 102 = .ok (.iconst 1, 1) := by decide +kernel
theorem dX5_count_103 : decode cX5_count 103 = .ok (.goto 4, 3) := by decide +kernel
theorem dX5_count_106 : decode cX5_count 106 = .ok (.iconst 0, 1) := by decide +kernel
theorem dX5_count_107 : decode cX5_count 107 = .ok (.ireturn, 1) := by decide +kernel
theorem dX5_count_108 : decode cX5_count 108 = .ok (.aload_n 0, 1) := by decide +kernel
theorem dX5_count_109 : decode cX5_count 109 = .ok (.getfield 26, 3) := by decide +kernel
theorem dX5_count_112 : decode cX5_count 112 = .ok (.invokevirtual 253, 3) := by decide +kernel
theorem dX5_count_115 : decode cX5_count 115 = .ok (.ireturn, 1) := by decide +kernel
theorem dX5_count_116 : decode cX5_count 116 = .ok (.aload_n 0, 1) := by decide +kernel
theorem dX5_count_117 : decode cX5_count 117 = .ok (.getfield 26, 3) := by decide +kernel
theorem dX5_count_120 : decode cX5_count 120 = .ok (.aload_n 0, 1) := by decide +kernel
theorem dX5_count_121 : decode cX5_count 121 = .ok (.getfield 19, 3) := by decide +kernel
theorem dX5_count_124 : decode cX5_count 124 = .ok (.invokevirtual 249, 3) := by decide +kernel
theorem dX5_count_127 : decode cX5_count 127 = .ok (.ireturn, 1) := by decide +kernel
theorem dX5_count_128 : decode cX5_count 128 = .ok (.aload_n 0, 1) := by decide +kernel
theorem dX5_count_129 : decode cX5_count 129 = .ok (.getfield 33, 3) := by decide +kernel
theorem dX5_count_132 : decode cX5_count 132 = .ok (.getfield 160, 3) := by decide +kernel
theorem dX5_count_135 : decode cX5_count 135 = .ok (.ireturn, 1) := by decide +kernel
theorem dX5_count_136 : decode cX5_count 136 = .ok (.aload_n 0, 1) := by decide +kernel
theorem dX5_count_137 : decode cX5_count 137 = .ok (.getfield 40, 3) := by decide +kernel
theorem dX5_count_140 : decode cX5_count 140 = .ok (.getfield 202, 3) := by decide +kernel
theorem dX5_count_143 : decode cX5_count 143 = .ok (.ireturn, 1) := by decide +kernel
theorem dX5_count_144 : decode cX5_count 144 = .ok (.bipush (-2), 2) := by decide +kernel
theorem dX5_count_146 : decode cX5_count 146 = .ok (.ireturn, 1) := by decide +kernel
theorem dX5_sayingYes_0 : decode cX5_sayingYes 0 = .ok (.aload_n 0, 1) := by decide +kernel
theorem dX5_sayingYes_1 : decode cX5_sayingYes 1 = .ok (.iload_n 1, 1) := by decide +kernel
theorem dX5_sayingYes_2 : decode cX5_sayingYes 2 = .ok (.aload_n 0, 1) := by decide +kernel
theorem dX5_sayingYes_3 : decode cX5_sayingYes 3 = .ok (.getfield 26, 3) := by decide +kernel
theorem dX5_sayingYes_6 : decode cX5_sayingYes 6 = .ok (.getfield 153, 3) := by decide +kernel
theorem dX5_sayingYes_9 : decode cX5_sayingYes 9 = .ok (.aload_n 0, 1) := by decide +kernel
theorem dX5_sayingYes_10 : decode cX5_sayingYes 10 = .ok (.getfield 26, 3) := by decide +kernel
theorem dX5_sayingYes_13 : decode cX5_sayingYes 13 = .ok (.getfield 157, 3) := by decide +kernel
theorem dX5_sayingYes_16 : decode cX5_sayingYes 16 = .ok (.invokevirtual 166, 3) := by decide +kernel
theorem dX5_sayingYes_19 : decode cX5_sayingYes 19 = .ok (.ireturn, 1) := by decide +kernel
theorem dX5_sayingYesIf_0 : decode cX5_sayingYesIf 0 = .ok (.iconst 0, 1) := by decide +kernel
theorem dX5_sayingYesIf_1 : decode cX5_sayingYesIf 1 = .ok (.istore 4, 2) := by decide +kernel
theorem dX5_sayingYesIf_3 : decode cX5_sayingYesIf 3 = .ok (.iconst 0, 1) := by decide +kernel
theorem dX5_sayingYesIf_4 : decode cX5_sayingYesIf 4 = .ok (.istore 5, 2) := by decide +kernel
theorem dX5_sayingYesIf_6 : decode cX5_sayingYesIf 6 = .ok (.iload 5, 2) := by decide +kernel
theorem dX5_sayingYesIf_8 : decode cX5_sayingYesIf 8 = .ok (.aload_n 0, 1) := by decide +kernel
theorem dX5_sayingYesIf_9 : decode cX5_sayingYesIf 9 = .ok (.getfield 19, 3) := by decide +kernel
theorem dX5_sayingYesIf_12 : decode cX5_sayingYesIf 12 = .ok (.getfield 82, 3) := by decide +kernel
theorem dX5_sayingYesIf_15 : decode cX5_sayingYesIf 15 = .ok (.if_icmp .ge 65, 3) := by decide +kernel
theorem dX5_sayingYesIf_18 : decode cX5_sayingYesIf 18 = .ok (.aload_n 0, 1) := by decide +kernel
theorem dX5_sayingYesIf_19 : decode cX5_sayingYesIf 19 = .ok (.getfield 19, 3) := by decide +kernel
theorem dX5_sayingYesIf_22 : decode cX5_sayingYesIf 22 = .ok (.iload 5, 2) := by decide +kernel
theorem dX5_sayingYesIf_24 : decode cX5_sayingYesIf 24 = .ok (.iload_n 1, 1) := by decide +kernel
theorem dX5_sayingYesIf_25 : decode cX5_sayingYesIf 25 = .ok (.aload_n 0, 1) := by decide +kernel
theorem dX5_sayingYesIf_26 : decode cX5_sayingYesIf 26 = .ok (.getfield 19, 3) := by decide +kernel
theorem dX5_sayingYesIf_29 : decode cX5_sayingYesIf 29 = .ok (.getfield 91, 3) := by decide +kernel
theorem dX5_sayingYesIf_32 : decode cX5_sayingYesIf 32 = .ok (.iload 5, 2) := by decide +kernel
theorem dX5_sayingYesIf_34 : decode cX5_sayingYesIf 34 = .ok (.iaload, 1) := by decide +kernel
theorem dX5_sayingYesIf_35 : decode cX5_sayingYesIf 35 = .ok (.aload_n 0, 1) := by decide +kernel
theorem dX5_sayingYesIf_36 : decode cX5_sayingYesIf 36 = .ok (.getfield 26, 3) := by decide +kernel
theorem dX5_sayingYesIf_39 : decode cX5_sayingYesIf 39 = .ok (.iload 5, 2) := by decide +kernel
theorem dX5_sayingYesIf_41 : decode cX5_sayingYesIf 41 = .ok (.invokevirtual 100, 3) := by decide +kernel
theorem dX5_sayingYesIf_44 : decode cX5_sayingYesIf 44 = .ok (.iload_n 2, 1) := by decide +kernel
theorem dX5_sayingYesIf_45 : decode cX5_sayingYesIf 45 = .ok (.iload_n 3, 1) := by decide +kernel
theorem dX5_sayingYesIf_46 : decode cX5_sayingYesIf 46 = .ok (.invokevirtual 256, 3) := by decide +kernel
theorem dX5_sayingYesIf_49 : decode cX5_sayingYesIf 49 = .ok (.istore 6, 2) := by decide +kernel
theorem dX5_sayingYesIf_51 : decode cX5_sayingYesIf 51 = .ok (.aload_n 0, 1) := by decide +kernel
theorem dX5_sayingYesIf_52 : decode cX5_sayingYesIf 52 = .ok (.getfield 19, 3) := by decide +kernel
theorem dX5_sayingYesIf_55 : decode cX5_sayingYesIf 55 = .ok (.iload 5, 2) := by decide +kernel
theorem dX5_sayingYesIf_57 : decode cX5_sayingYesIf 57 = .ok (.iload 6, 2) := by decide +kernel
theorem dX5_sayingYesIf_59 : decode cX5_sayingYesIf 59 = .ok (.invokevirtual 260, 3) := by decide +kernel
theorem dX5_sayingYesIf_62 : decode cX5_sayingYesIf 62 = .ok (.ifCond .eq 12, 3) := by decide +kernel
theorem dX5_sayingYesIf_65 : decode cX5_sayingYesIf 65 = .ok (.iload 4, 2) := by decide +kernel
theorem dX5_sayingYesIf_67 : decode cX5_sayingYesIf 67 = .ok (.iconst 1, 1) := by decide +kernel
theorem dX5_sayingYesIf_68 : decode cX5_sayingYesIf 68 = .ok (.iload 5, 2) := by decide +kernel
theorem dX5_sayingYesIf_70 : decode cX5_sayingYesIf 70 = .ok (.ishl, 1) := by decide +kernel
theorem dX5_sayingYesIf_71 : decode cX5_sayingYesIf 71 = .ok (.ior, 1) := by decide +kernel
theorem dX5_sayingYesIf_72 : decode cX5_sayingYesIf 72 = .ok (.istore 4, 2) := by decide +kernel
theorem dX5_sayingYesIf_74 : decode cX5_sayingYesIf 74 = .ok (.iinc 5 1, 3) := by decide +kernel
theorem dX5_sayingYesIf_77 : decode cX5_sayingYesIf 77 = .ok (.goto (-71), 3) := by decide +kernel
theorem dX5_sayingYesIf_80 : decode cX5_sayingYesIf 80 = .ok (.iload 4, 2) := by decide +kernel
theorem dX5_sayingYesIf_82 : decode cX5_sayingYesIf 82 = .ok (.ireturn, 1) := by decide +kernel
theorem dX5_sayingRight_0 : decode cX5_sayingRight 0 = .ok (.aload_n 0, 1) := by decide +kernel
theorem dX5_sayingRight_1 : decode cX5_sayingRight 1 = .ok (.iload_n 1, 1) := by decide +kernel
theorem dX5_sayingRight_2 : decode cX5_sayingRight 2 = .ok (.invokevirtual 110, 3) := by decide +kernel
theorem dX5_sayingRight_5 : decode cX5_sayingRight 5 = .ok (.istore_n 2, 1) := by decide +kernel
theorem dX5_sayingRight_6 : decode cX5_sayingRight 6 = .ok (.aload_n 0, 1) := by decide +kernel
theorem dX5_sayingRight_7 : decode cX5_sayingRight 7 = .ok (.getfield 19, 3) := by decide +kernel
theorem dX5_sayingRight_10 : decode cX5_sayingRight 10 = .ok (.iload_n 1, 1) := by decide +kernel
theorem dX5_sayingRight_11 : decode cX5_sayingRight 11 = .ok (.invokevirtual 173, 3) := by decide +kernel
theorem dX5_sayingRight_14 : decode cX5_sayingRight 14 = .ok (.ifCond .eq 7, 3) := by decide +kernel
theorem dX5_sayingRight_17 : decode cX5_sayingRight 17 = .ok (.iload_n 2, 1) := by decide +kernel
theorem dX5_sayingRight_18 : decode cX5_sayingRight 18 = .ok (.goto 14, 3) := by decide +kernel
theorem dX5_sayingRight_21 : decode cX5_sayingRight 21 = .ok (.aload_n 0, 1) := by decide +kernel
theorem dX5_sayingRight_22 : decode cX5_sayingRight 22 = .ok (.getfield 19, 3) := by decide +kernel
theorem dX5_sayingRight_25 : decode cX5_sayingRight 25 = .ok (.invokevirtual 170, 3) := by decide +kernel
theorem dX5_sayingRight_28 : decode cX5_sayingRight 28 = .ok (.iload_n 2, 1) := by decide +kernel
theorem dX5_sayingRight_29 : decode cX5_sayingRight 29 = .ok (.iconst (-1), 1) := by decide +kernel
theorem dX5_sayingRight_30 : decode cX5_sayingRight 30 = .ok (.ixor, 1) := by decide +kernel
theorem dX5_sayingRight_31 : decode cX5_sayingRight 31 = .ok (.iand, 1) := by decide +kernel
theorem dX5_sayingRight_32 : decode cX5_sayingRight 32 = .ok (.ireturn, 1) := by decide +kernel
theorem dX5_seesAllBright_0 : decode cX5_seesAllBright 0 = .ok (.iconst 0, 1) := by decide +kernel
theorem dX5_seesAllBright_1 : decode cX5_seesAllBright 1 = .ok (.istore_n 2, 1) := by decide +kernel
theorem dX5_seesAllBright_2 : decode cX5_seesAllBright 2 = .ok (.iload_n 2, 1) := by decide +kernel
theorem dX5_seesAllBright_3 : decode cX5_seesAllBright 3 = .ok (.aload_n 0, 1) := by decide +kernel
theorem dX5_seesAllBright_4 : decode cX5_seesAllBright 4 = .ok (.getfield 19, 3) := by decide +kernel
theorem dX5_seesAllBright_7 : decode cX5_seesAllBright 7 = .ok (.getfield 85, 3) := by decide +kernel
theorem dX5_seesAllBright_10 : decode cX5_seesAllBright 10 = .ok (.if_icmp .ge 33, 3) := by decide +kernel
theorem dX5_seesAllBright_13 : decode cX5_seesAllBright 13 = .ok (.aload_n 0, 1) := by decide +kernel
theorem dX5_seesAllBright_14 : decode cX5_seesAllBright 14 = .ok (.getfield 19, 3) := by decide +kernel
theorem dX5_seesAllBright_17 : decode cX5_seesAllBright 17 = .ok (.iload_n 2, 1) := by decide +kernel
theorem dX5_seesAllBright_18 : decode cX5_seesAllBright 18 = .ok (.invokevirtual 173, 3) := by decide +kernel
theorem dX5_seesAllBright_21 : decode cX5_seesAllBright 21 = .ok (.ifCond .eq 16, 3) := by decide +kernel
theorem dX5_seesAllBright_24 : decode cX5_seesAllBright 24 = .ok (.aload_n 0, 1) := by decide +kernel
theorem dX5_seesAllBright_25 : decode cX5_seesAllBright 25 = .ok (.getfield 55, 3) := by decide +kernel
theorem dX5_seesAllBright_28 : decode cX5_seesAllBright 28 = .ok (.iload_n 2, 1) := by decide +kernel
theorem dX5_seesAllBright_29 : decode cX5_seesAllBright 29 = .ok (.iaload, 1) := by decide +kernel
theorem dX5_seesAllBright_30 : decode cX5_seesAllBright 30 = .ok (.iload_n 1, 1) := by decide +kernel
theorem dX5_seesAllBright_31 : decode cX5_seesAllBright 31 = .ok (.iand, 1) := by decide +kernel
theorem dX5_seesAllBright_32 : decode cX5_seesAllBright 32 = .ok (.ifCond .ne 5, 3) := by decide +kernel
theorem dX5_seesAllBright_35 : decode cX5_seesAllBright 35 = .ok (.iconst 0, 1) := by decide +kernel
theorem dX5_seesAllBright_36 : decode cX5_seesAllBright 36 = .ok (.ireturn, 1) := by decide +kernel
theorem dX5_seesAllBright_37 : decode cX5_seesAllBright 37 = .ok (.iinc 2 1, 3) := by decide +kernel
theorem dX5_seesAllBright_40 : decode cX5_seesAllBright 40 = .ok (.goto (-38), 3) := by decide +kernel
theorem dX5_seesAllBright_43 : decode cX5_seesAllBright 43 = .ok (.iconst 1, 1) := by decide +kernel
theorem dX5_seesAllBright_44 : decode cX5_seesAllBright 44 = .ok (.ireturn, 1) := by decide +kernel
theorem dX5_standsOnTrial_0 : decode cX5_standsOnTrial 0 = .ok (.iload_n 1, 1) := by decide +kernel
theorem dX5_standsOnTrial_1 : decode cX5_standsOnTrial 1 = .ok (.ifCond .ne 31, 3) := by decide +kernel
theorem dX5_standsOnTrial_4 : decode cX5_standsOnTrial 4 = .ok (.iload_n 2, 1) := by decide +kernel
theorem dX5_standsOnTrial_5 : decode cX5_standsOnTrial 5 = .ok (.ifCond .ne 27, 3) := by decide +kernel
theorem dX5_standsOnTrial_8 : decode cX5_standsOnTrial 8 = .ok (.aload_n 0, 1) := by decide +kernel
theorem dX5_standsOnTrial_9 : decode cX5_standsOnTrial 9 = .ok (.getfield 52, 3) := by decide +kernel
theorem dX5_standsOnTrial_12 : decode cX5_standsOnTrial 12 = .ok (.aload_n 0, 1) := by decide +kernel
theorem dX5_standsOnTrial_13 : decode cX5_standsOnTrial 13 = .ok (.getfield 52, 3) := by decide +kernel
theorem dX5_standsOnTrial_16 : decode cX5_standsOnTrial 16 = .ok (.getfield 153, 3) := by decide +kernel
theorem dX5_standsOnTrial_19 : decode cX5_standsOnTrial 19 = .ok (.ifCond .ne 7, 3) := by decide +kernel
theorem dX5_standsOnTrial_22 : decode cX5_standsOnTrial 22 = .ok (.iconst 1, 1) := by decide +kernel
theorem dX5_standsOnTrial_23 : decode cX5_standsOnTrial 23 = .ok (.goto 4, 3) := by decide +kernel
theorem dX5_standsOnTrial_26 : decode cX5_standsOnTrial 26 = .ok (.iconst 0, 1) := by decide +kernel
theorem dX5_standsOnTrial_27 : decode cX5_standsOnTrial 27 = .ok (.putfield 153, 3) := by decide +kernel
theorem dX5_standsOnTrial_30 : decode cX5_standsOnTrial 30 = .ok (.iconst 1, 1) := by decide +kernel
theorem dX5_standsOnTrial_31 : decode cX5_standsOnTrial 31 = .ok (.ireturn, 1) := by decide +kernel
theorem dX5_standsOnTrial_32 : decode cX5_standsOnTrial 32 = .ok (.iload_n 1, 1) := by decide +kernel
theorem dX5_standsOnTrial_33 : decode cX5_standsOnTrial 33 = .ok (.ifCond .ne 32, 3) := by decide +kernel
theorem dX5_standsOnTrial_36 : decode cX5_standsOnTrial 36 = .ok (.iload_n 2, 1) := by decide +kernel
theorem dX5_standsOnTrial_37 : decode cX5_standsOnTrial 37 = .ok (.iconst 1, 1) := by decide +kernel
theorem dX5_standsOnTrial_38 : decode cX5_standsOnTrial 38 = .ok (.if_icmp .ne 27, 3) := by decide +kernel
theorem dX5_standsOnTrial_41 : decode cX5_standsOnTrial 41 = .ok (.aload_n 0, 1) := by decide +kernel
theorem dX5_standsOnTrial_42 : decode cX5_standsOnTrial 42 = .ok (.getfield 52, 3) := by decide +kernel
theorem dX5_standsOnTrial_45 : decode cX5_standsOnTrial 45 = .ok (.aload_n 0, 1) := by decide +kernel
theorem dX5_standsOnTrial_46 : decode cX5_standsOnTrial 46 = .ok (.getfield 52, 3) := by decide +kernel
theorem dX5_standsOnTrial_49 : decode cX5_standsOnTrial 49 = .ok (.getfield 157, 3) := by decide +kernel
theorem dX5_standsOnTrial_52 : decode cX5_standsOnTrial 52 = .ok (.ifCond .ne 7, 3) := by decide +kernel
theorem dX5_standsOnTrial_55 : decode cX5_standsOnTrial 55 = .ok (.iconst 1, 1) := by decide +kernel
theorem dX5_standsOnTrial_56 : decode cX5_standsOnTrial 56 = .ok (.goto 4, 3) := by decide +kernel
theorem dX5_standsOnTrial_59 : decode cX5_standsOnTrial 59 = .ok (.iconst 0, 1) := by decide +kernel
theorem dX5_standsOnTrial_60 : decode cX5_standsOnTrial 60 = .ok (.putfield 157, 3) := by decide +kernel
theorem dX5_standsOnTrial_63 : decode cX5_standsOnTrial 63 = .ok (.iconst 1, 1) := by decide +kernel
theorem dX5_standsOnTrial_64 : decode cX5_standsOnTrial 64 = .ok (.ireturn, 1) := by decide +kernel
theorem dX5_standsOnTrial_65 : decode cX5_standsOnTrial 65 = .ok (.iload_n 1, 1) := by decide +kernel
theorem dX5_standsOnTrial_66 : decode cX5_standsOnTrial 66 = .ok (.iconst 1, 1) := by decide +kernel
theorem dX5_standsOnTrial_67 : decode cX5_standsOnTrial 67 = .ok (.if_icmp .lt 57, 3) := by decide +kernel
theorem dX5_standsOnTrial_70 : decode cX5_standsOnTrial 70 = .ok (.iload_n 1, 1) := by decide +kernel
theorem dX5_standsOnTrial_71 : decode cX5_standsOnTrial 71 = .ok (.iconst 5, 1) := by decide +kernel
theorem dX5_standsOnTrial_72 : decode cX5_standsOnTrial 72 = .ok (.if_icmp .gt 52, 3) := by decide +kernel
theorem dX5_standsOnTrial_75 : decode cX5_standsOnTrial 75 = .ok (.aload_n 0, 1) := by decide +kernel
theorem dX5_standsOnTrial_76 : decode cX5_standsOnTrial 76 = .ok (.getfield 19, 3) := by decide +kernel
theorem dX5_standsOnTrial_79 : decode cX5_standsOnTrial 79 = .ok (.iload_n 1, 1) := by decide +kernel
theorem dX5_standsOnTrial_80 : decode cX5_standsOnTrial 80 = .ok (.iconst 1, 1) := by decide +kernel
theorem dX5_standsOnTrial_81 : decode cX5_standsOnTrial 81 = .ok (.isub, 1) := by decide +kernel
theorem dX5_standsOnTrial_82 : decode cX5_standsOnTrial 82 = .ok (.iload_n 2, 1) := by decide +kernel
theorem dX5_standsOnTrial_83 : decode cX5_standsOnTrial 83 = .ok (.invokevirtual 123, 3) := by decide +kernel
theorem dX5_standsOnTrial_86 : decode cX5_standsOnTrial 86 = .ok (.ifCond .eq 36, 3) := by decide +kernel
theorem dX5_standsOnTrial_89 : decode cX5_standsOnTrial 89 = .ok (.aload_n 0, 1) := by decide +kernel
theorem dX5_standsOnTrial_90 : decode cX5_standsOnTrial 90 = .ok (.getfield 52, 3) := by decide +kernel
theorem dX5_standsOnTrial_93 : decode cX5_standsOnTrial 93 = .ok (.aload_n 0, 1) := by decide +kernel
theorem dX5_standsOnTrial_94 : decode cX5_standsOnTrial 94 = .ok (.getfield 19, 3) := by decide +kernel
theorem dX5_standsOnTrial_97 : decode cX5_standsOnTrial 97 = .ok (.iload_n 1, 1) := by decide +kernel
theorem dX5_standsOnTrial_98 : decode cX5_standsOnTrial 98 = .ok (.iconst 1, 1) := by decide +kernel
theorem dX5_standsOnTrial_99 : decode cX5_standsOnTrial 99 = .ok (.isub, 1) := by decide +kernel
theorem dX5_standsOnTrial_100 : decode cX5_standsOnTrial 100 = .ok (.iload_n 2, 1) := by decide +kernel
theorem dX5_standsOnTrial_101 : decode cX5_standsOnTrial 101 = .ok (.invokevirtual 135, 3) := by decide +kernel
theorem dX5_standsOnTrial_104 : decode cX5_standsOnTrial 104 = .ok (.ifCond .eq 14, 3) := by decide +kernel
theorem dX5_standsOnTrial_107 : decode cX5_standsOnTrial 107 = .ok (.aload_n 0, 1) := by decide +kernel
theorem dX5_standsOnTrial_108 : decode cX5_standsOnTrial 108 = .ok (.getfield 19, 3) := by decide +kernel
theorem dX5_standsOnTrial_111 : decode cX5_standsOnTrial 111 = .ok (.iload_n 2, 1) := by decide +kernel
theorem dX5_standsOnTrial_112 : decode cX5_standsOnTrial 112 = .ok (.invokevirtual 173, 3) := by decide +kernel
theorem dX5_standsOnTrial_115 : decode cX5_standsOnTrial 115 = .ok (.ifCond .eq 7, 3) := by decide +kernel
theorem dX5_standsOnTrial_118 : decode cX5_standsOnTrial 118 = .ok (.iconst 1, 1) := by decide +kernel
theorem dX5_standsOnTrial_119 : decode cX5_standsOnTrial 119 = .ok (.goto 4, 3) := by decide +kernel
theorem dX5_standsOnTrial_122 : decode cX5_standsOnTrial 122 = .ok (.iconst 0, 1) := by decide +kernel
theorem dX5_standsOnTrial_123 : decode cX5_standsOnTrial 123 = .ok (.ireturn, 1) := by decide +kernel
theorem dX5_standsOnTrial_124 : decode cX5_standsOnTrial 124 = .ok (.iload_n 1, 1) := by decide +kernel
theorem dX5_standsOnTrial_125 : decode cX5_standsOnTrial 125 = .ok (.bipush 6, 2) := by decide +kernel
theorem dX5_standsOnTrial_127 : decode cX5_standsOnTrial 127 = .ok (.if_icmp .ne 25, 3) := by decide +kernel
theorem dX5_standsOnTrial_130 : decode cX5_standsOnTrial 130 = .ok (.aload_n 0, 1) := by decide +kernel
theorem dX5_standsOnTrial_131 : decode cX5_standsOnTrial 131 = .ok (.getfield 19, 3) := by decide +kernel
theorem dX5_standsOnTrial_134 : decode cX5_standsOnTrial 134 = .ok (.iload_n 2, 1) := by decide +kernel
theorem dX5_standsOnTrial_135 : decode cX5_standsOnTrial 135 = .ok (.invokevirtual 88, 3) := by decide +kernel
theorem dX5_standsOnTrial_138 : decode cX5_standsOnTrial 138 = .ok (.ifCond .eq 14, 3) := by decide +kernel
theorem dX5_standsOnTrial_141 : decode cX5_standsOnTrial 141 = .ok (.aload_n 0, 1) := by decide +kernel
theorem dX5_standsOnTrial_142 : decode cX5_standsOnTrial 142 = .ok (.getfield 52, 3) := by decide +kernel
theorem dX5_standsOnTrial_145 : decode cX5_standsOnTrial 145 = .ok (.iload_n 2, 1) := by decide +kernel
theorem dX5_standsOnTrial_146 : decode cX5_standsOnTrial 146 = .ok (.invokevirtual 100, 3) := by decide +kernel
theorem dX5_standsOnTrial_149 : decode cX5_standsOnTrial 149 = .ok (.ifCond .ne 5, 3) := by decide +kernel
theorem dX5_standsOnTrial_152 : decode cX5_standsOnTrial 152 = .ok (.iconst 0, 1) := by decide +kernel
theorem dX5_standsOnTrial_153 : decode cX5_standsOnTrial 153 = .ok (.ireturn, 1) := by decide +kernel
theorem dX5_standsOnTrial_154 : decode cX5_standsOnTrial 154 = .ok (.aload_n 0, 1) := by decide +kernel
theorem dX5_standsOnTrial_155 : decode cX5_standsOnTrial 155 = .ok (.getfield 52, 3) := by decide +kernel
theorem dX5_standsOnTrial_158 : decode cX5_standsOnTrial 158 = .ok (.iload_n 2, 1) := by decide +kernel
theorem dX5_standsOnTrial_159 : decode cX5_standsOnTrial 159 = .ok (.iconst 0, 1) := by decide +kernel
theorem dX5_standsOnTrial_160 : decode cX5_standsOnTrial 160 = .ok (.invokevirtual 139, 3) := by decide +kernel
theorem dX5_standsOnTrial_163 : decode cX5_standsOnTrial 163 = .ok (.iconst 1, 1) := by decide +kernel
theorem dX5_standsOnTrial_164 : decode cX5_standsOnTrial 164 = .ok (.ireturn, 1) := by decide +kernel
theorem dX5_winterOnTrial_0 : decode cX5_winterOnTrial 0 = .ok (.iload_n 1, 1) := by decide +kernel
theorem dX5_winterOnTrial_1 : decode cX5_winterOnTrial 1 = .ok (.bipush 20, 2) := by decide +kernel
theorem dX5_winterOnTrial_3 : decode cX5_winterOnTrial 3 = .ok (.if_icmp .ne 28, 3) := by decide +kernel
theorem dX5_winterOnTrial_6 : decode cX5_winterOnTrial 6 = .ok (.aload_n 0, 1) := by decide +kernel
theorem dX5_winterOnTrial_7 : decode cX5_winterOnTrial 7 = .ok (.getfield 52, 3) := by decide +kernel
theorem dX5_winterOnTrial_10 : decode cX5_winterOnTrial 10 = .ok (.aload_n 0, 1) := by decide +kernel
theorem dX5_winterOnTrial_11 : decode cX5_winterOnTrial 11 = .ok (.getfield 52, 3) := by decide +kernel
theorem dX5_winterOnTrial_14 : decode cX5_winterOnTrial 14 = .ok (.getfield 153, 3) := by decide +kernel
theorem dX5_winterOnTrial_17 : decode cX5_winterOnTrial 17 = .ok (.ifCond .ne 7, 3) := by decide +kernel
theorem dX5_winterOnTrial_20 : decode cX5_winterOnTrial 20 = .ok (.iconst 1, 1) := by decide +kernel
theorem dX5_winterOnTrial_21 : decode cX5_winterOnTrial 21 = .ok (.goto 4, 3) := by decide +kernel
theorem dX5_winterOnTrial_24 : decode cX5_winterOnTrial 24 = .ok (.iconst 0, 1) := by decide +kernel
theorem dX5_winterOnTrial_25 : decode cX5_winterOnTrial 25 = .ok (.putfield 153, 3) := by decide +kernel
theorem dX5_winterOnTrial_28 : decode cX5_winterOnTrial 28 = .ok (.goto 68, 3) := by decide +kernel
theorem dX5_winterOnTrial_31 : decode cX5_winterOnTrial 31 = .ok (.iload_n 1, 1) := by decide +kernel
theorem dX5_winterOnTrial_32 : decode cX5_winterOnTrial 32 = .ok (.bipush 21, 2) := by decide +kernel
theorem dX5_winterOnTrial_34 : decode cX5_winterOnTrial 34 = .ok (.if_icmp .ne 28, 3) := by decide +kernel
theorem dX5_winterOnTrial_37 : decode cX5_winterOnTrial 37 = .ok (.aload_n 0, 1) := by decide +kernel
theorem dX5_winterOnTrial_38 : decode cX5_winterOnTrial 38 = .ok (.getfield 52, 3) := by decide +kernel
theorem dX5_winterOnTrial_41 : decode cX5_winterOnTrial 41 = .ok (.aload_n 0, 1) := by decide +kernel
theorem dX5_winterOnTrial_42 : decode cX5_winterOnTrial 42 = .ok (.getfield 52, 3) := by decide +kernel
theorem dX5_winterOnTrial_45 : decode cX5_winterOnTrial 45 = .ok (.getfield 157, 3) := by decide +kernel
theorem dX5_winterOnTrial_48 : decode cX5_winterOnTrial 48 = .ok (.ifCond .ne 7, 3) := by decide +kernel
theorem dX5_winterOnTrial_51 : decode cX5_winterOnTrial 51 = .ok (.iconst 1, 1) := by decide +kernel
theorem dX5_winterOnTrial_52 : decode cX5_winterOnTrial 52 = .ok (.goto 4, 3) := by decide +kernel
theorem dX5_winterOnTrial_55 : decode cX5_winterOnTrial 55 = .ok (.iconst 0, 1) := by decide +kernel
theorem dX5_winterOnTrial_56 : decode cX5_winterOnTrial 56 = .ok (.putfield 157, 3) := by decide +kernel
theorem dX5_winterOnTrial_59 : decode cX5_winterOnTrial 59 = .ok (.goto 37, 3) := by decide +kernel
theorem dX5_winterOnTrial_62 : decode cX5_winterOnTrial 62 = .ok (.aload_n 0, 1) := by decide +kernel
theorem dX5_winterOnTrial_63 : decode cX5_winterOnTrial 63 = .ok (.getfield 19, 3) := by decide +kernel
theorem dX5_winterOnTrial_66 : decode cX5_winterOnTrial 66 = .ok (.iload_n 1, 1) := by decide +kernel
theorem dX5_winterOnTrial_67 : decode cX5_winterOnTrial 67 = .ok (.iconst 4, 1) := by decide +kernel
theorem dX5_winterOnTrial_68 : decode cX5_winterOnTrial 68 = .ok (.idiv, 1) := by decide +kernel
theorem dX5_winterOnTrial_69 : decode cX5_winterOnTrial 69 = .ok (.iload_n 1, 1) := by decide +kernel
theorem dX5_winterOnTrial_70 : decode cX5_winterOnTrial 70 = .ok (.iconst 4, 1) := by decide +kernel
theorem dX5_winterOnTrial_71 : decode cX5_winterOnTrial 71 = .ok (.irem, 1) := by decide +kernel
theorem dX5_winterOnTrial_72 : decode cX5_winterOnTrial 72 = .ok (.invokevirtual 123, 3) := by decide +kernel
theorem dX5_winterOnTrial_75 : decode cX5_winterOnTrial 75 = .ok (.ifCond .eq 21, 3) := by decide +kernel
theorem dX5_winterOnTrial_78 : decode cX5_winterOnTrial 78 = .ok (.aload_n 0, 1) := by decide +kernel
theorem dX5_winterOnTrial_79 : decode cX5_winterOnTrial 79 = .ok (.getfield 52, 3) := by decide +kernel
theorem dX5_winterOnTrial_82 : decode cX5_winterOnTrial 82 = .ok (.aload_n 0, 1) := by decide +kernel
theorem dX5_winterOnTrial_83 : decode cX5_winterOnTrial 83 = .ok (.getfield 19, 3) := by decide +kernel
theorem dX5_winterOnTrial_86 : decode cX5_winterOnTrial 86 = .ok (.iload_n 1, 1) := by decide +kernel
theorem dX5_winterOnTrial_87 : decode cX5_winterOnTrial 87 = .ok (.iconst 4, 1) := by decide +kernel
theorem dX5_winterOnTrial_88 : decode cX5_winterOnTrial 88 = .ok (.idiv, 1) := by decide +kernel
theorem dX5_winterOnTrial_89 : decode cX5_winterOnTrial 89 = .ok (.iload_n 1, 1) := by decide +kernel
theorem dX5_winterOnTrial_90 : decode cX5_winterOnTrial 90 = .ok (.iconst 4, 1) := by decide +kernel
theorem dX5_winterOnTrial_91 : decode cX5_winterOnTrial 91 = .ok (.irem, 1) := by decide +kernel
theorem dX5_winterOnTrial_92 : decode cX5_winterOnTrial 92 = .ok (.invokevirtual 135, 3) := by decide +kernel
theorem dX5_winterOnTrial_95 : decode cX5_winterOnTrial 95 = .ok (.pop, 1) := by decide +kernel
theorem dX5_winterOnTrial_96 : decode cX5_winterOnTrial 96 = .ok (.return_, 1) := by decide +kernel
theorem dX5_saidIfGoneFrom_0 : decode cX5_saidIfGoneFrom 0 = .ok (.iconst 0, 1) := by decide +kernel
theorem dX5_saidIfGoneFrom_1 : decode cX5_saidIfGoneFrom 1 = .ok (.istore 5, 2) := by decide +kernel
theorem dX5_saidIfGoneFrom_3 : decode cX5_saidIfGoneFrom 3 = .ok (.iconst 0, 1) := by decide +kernel
theorem dX5_saidIfGoneFrom_4 : decode cX5_saidIfGoneFrom 4 = .ok (.istore 6, 2) := by decide +kernel
theorem dX5_saidIfGoneFrom_6 : decode cX5_saidIfGoneFrom 6 = .ok (.iload 6, 2) := by decide +kernel
theorem dX5_saidIfGoneFrom_8 : decode cX5_saidIfGoneFrom 8 = .ok (.iload_n 3, 1) := by decide +kernel
theorem dX5_saidIfGoneFrom_9 : decode cX5_saidIfGoneFrom 9 = .ok (.if_icmp .ge 80, 3) := by decide +kernel
theorem dX5_saidIfGoneFrom_12 : decode cX5_saidIfGoneFrom 12 = .ok (.iload 4, 2) := by decide +kernel
theorem dX5_saidIfGoneFrom_14 : decode cX5_saidIfGoneFrom 14 = .ok (.iload_n 3, 1) := by decide +kernel
theorem dX5_saidIfGoneFrom_15 : decode cX5_saidIfGoneFrom 15 = .ok (.iconst 1, 1) := by decide +kernel
theorem dX5_saidIfGoneFrom_16 : decode cX5_saidIfGoneFrom 16 = .ok (.isub, 1) := by decide +kernel
theorem dX5_saidIfGoneFrom_17 : decode cX5_saidIfGoneFrom 17 = .ok (.iload 6, 2) := by decide +kernel
theorem dX5_saidIfGoneFrom_19 : decode cX5_saidIfGoneFrom 19 = .ok (.isub, 1) := by decide +kernel
theorem dX5_saidIfGoneFrom_20 : decode cX5_saidIfGoneFrom 20 = .ok (.invokestatic 193, 3) := by decide +kernel
theorem dX5_saidIfGoneFrom_23 : decode cX5_saidIfGoneFrom 23 = .ok (.iconst 1, 1) := by decide +kernel
theorem dX5_saidIfGoneFrom_24 : decode cX5_saidIfGoneFrom 24 = .ok (.isub, 1) := by decide +kernel
theorem dX5_saidIfGoneFrom_25 : decode cX5_saidIfGoneFrom 25 = .ok (.istore 7, 2) := by decide +kernel
theorem dX5_saidIfGoneFrom_27 : decode cX5_saidIfGoneFrom 27 = .ok (.aload_n 0, 1) := by decide +kernel
theorem dX5_saidIfGoneFrom_28 : decode cX5_saidIfGoneFrom 28 = .ok (.getfield 19, 3) := by decide +kernel
theorem dX5_saidIfGoneFrom_31 : decode cX5_saidIfGoneFrom 31 = .ok (.iload_n 2, 1) := by decide +kernel
theorem dX5_saidIfGoneFrom_32 : decode cX5_saidIfGoneFrom 32 = .ok (.iload 7, 2) := by decide +kernel
theorem dX5_saidIfGoneFrom_34 : decode cX5_saidIfGoneFrom 34 = .ok (.aload_n 0, 1) := by decide +kernel
theorem dX5_saidIfGoneFrom_35 : decode cX5_saidIfGoneFrom 35 = .ok (.getfield 19, 3) := by decide +kernel
theorem dX5_saidIfGoneFrom_38 : decode cX5_saidIfGoneFrom 38 = .ok (.iload_n 2, 1) := by decide +kernel
theorem dX5_saidIfGoneFrom_39 : decode cX5_saidIfGoneFrom 39 = .ok (.invokevirtual 263, 3) := by decide +kernel
theorem dX5_saidIfGoneFrom_42 : decode cX5_saidIfGoneFrom 42 = .ok (.iload 6, 2) := by decide +kernel
theorem dX5_saidIfGoneFrom_44 : decode cX5_saidIfGoneFrom 44 = .ok (.iload 6, 2) := by decide +kernel
theorem dX5_saidIfGoneFrom_46 : decode cX5_saidIfGoneFrom 46 = .ok (.iload_n 1, 1) := by decide +kernel
theorem dX5_saidIfGoneFrom_47 : decode cX5_saidIfGoneFrom 47 = .ok (.if_icmp .ge 7, 3) := by decide +kernel
theorem dX5_saidIfGoneFrom_50 : decode cX5_saidIfGoneFrom 50 = .ok (.iconst 1, 1) := by decide +kernel
theorem dX5_saidIfGoneFrom_51 : decode cX5_saidIfGoneFrom 51 = .ok (.goto 4, 3) := by decide +kernel
theorem dX5_saidIfGoneFrom_54 : decode cX5_saidIfGoneFrom 54 = .ok (.iconst 0, 1) := by decide +kernel
theorem dX5_saidIfGoneFrom_55 : decode cX5_saidIfGoneFrom 55 = .ok (.iconst 1, 1) := by decide +kernel
theorem dX5_saidIfGoneFrom_56 : decode cX5_saidIfGoneFrom 56 = .ok (.invokevirtual 256, 3) := by decide +kernel
theorem dX5_saidIfGoneFrom_59 : decode cX5_saidIfGoneFrom 59 = .ok (.istore 8, 2) := by decide +kernel
theorem dX5_saidIfGoneFrom_61 : decode cX5_saidIfGoneFrom 61 = .ok (.aload_n 0, 1) := by decide +kernel
theorem dX5_saidIfGoneFrom_62 : decode cX5_saidIfGoneFrom 62 = .ok (.getfield 19, 3) := by decide +kernel
theorem dX5_saidIfGoneFrom_65 : decode cX5_saidIfGoneFrom 65 = .ok (.iload_n 2, 1) := by decide +kernel
theorem dX5_saidIfGoneFrom_66 : decode cX5_saidIfGoneFrom 66 = .ok (.iload 8, 2) := by decide +kernel
theorem dX5_saidIfGoneFrom_68 : decode cX5_saidIfGoneFrom 68 = .ok (.invokevirtual 260, 3) := by decide +kernel
theorem dX5_saidIfGoneFrom_71 : decode cX5_saidIfGoneFrom 71 = .ok (.ifCond .eq 12, 3) := by decide +kernel
theorem dX5_saidIfGoneFrom_74 : decode cX5_saidIfGoneFrom 74 = .ok (.iload 5, 2) := by decide +kernel
theorem dX5_saidIfGoneFrom_76 : decode cX5_saidIfGoneFrom 76 = .ok (.iconst 1, 1) := by decide +kernel
theorem dX5_saidIfGoneFrom_77 : decode cX5_saidIfGoneFrom 77 = .ok (.iload 6, 2) := by decide +kernel
theorem dX5_saidIfGoneFrom_79 : decode cX5_saidIfGoneFrom 79 = .ok (.ishl, 1) := by decide +kernel
theorem dX5_saidIfGoneFrom_80 : decode cX5_saidIfGoneFrom 80 = .ok (.ior, 1) := by decide +kernel
theorem dX5_saidIfGoneFrom_81 : decode cX5_saidIfGoneFrom 81 = .ok (.istore 5, 2) := by decide +kernel
theorem dX5_saidIfGoneFrom_83 : decode cX5_saidIfGoneFrom 83 = .ok (.iinc 6 1, 3) := by decide +kernel
theorem dX5_saidIfGoneFrom_86 : decode cX5_saidIfGoneFrom 86 = .ok (.goto (-80), 3) := by decide +kernel
theorem dX5_saidIfGoneFrom_89 : decode cX5_saidIfGoneFrom 89 = .ok (.iload 5, 2) := by decide +kernel
theorem dX5_saidIfGoneFrom_91 : decode cX5_saidIfGoneFrom 91 = .ok (.ireturn, 1) := by decide +kernel
theorem dX5_rightByMost_0 : decode cX5_rightByMost 0 = .ok (.iconst 0, 1) := by decide +kernel
theorem dX5_rightByMost_1 : decode cX5_rightByMost 1 = .ok (.istore_n 2, 1) := by decide +kernel
theorem dX5_rightByMost_2 : decode cX5_rightByMost 2 = .ok (.iconst 0, 1) := by decide +kernel
theorem dX5_rightByMost_3 : decode cX5_rightByMost 3 = .ok (.istore_n 3, 1) := by decide +kernel
theorem dX5_rightByMost_4 : decode cX5_rightByMost 4 = .ok (.iload_n 3, 1) := by decide +kernel
theorem dX5_rightByMost_5 : decode cX5_rightByMost 5 = .ok (.aload_n 0, 1) := by decide +kernel
theorem dX5_rightByMost_6 : decode cX5_rightByMost 6 = .ok (.getfield 19, 3) := by decide +kernel
theorem dX5_rightByMost_9 : decode cX5_rightByMost 9 = .ok (.getfield 85, 3) := by decide +kernel
theorem dX5_rightByMost_12 : decode cX5_rightByMost 12 = .ok (.if_icmp .ge 32, 3) := by decide +kernel
theorem dX5_rightByMost_15 : decode cX5_rightByMost 15 = .ok (.iconst 2, 1) := by decide +kernel
theorem dX5_rightByMost_16 : decode cX5_rightByMost 16 = .ok (.aload_n 0, 1) := by decide +kernel
theorem dX5_rightByMost_17 : decode cX5_rightByMost 17 = .ok (.getfield 55, 3) := by decide +kernel
theorem dX5_rightByMost_20 : decode cX5_rightByMost 20 = .ok (.iload_n 3, 1) := by decide +kernel
theorem dX5_rightByMost_21 : decode cX5_rightByMost 21 = .ok (.iaload, 1) := by decide +kernel
theorem dX5_rightByMost_22 : decode cX5_rightByMost 22 = .ok (.iload_n 1, 1) := by decide +kernel
theorem dX5_rightByMost_23 : decode cX5_rightByMost 23 = .ok (.iand, 1) := by decide +kernel
theorem dX5_rightByMost_24 : decode cX5_rightByMost 24 = .ok (.invokestatic 176, 3) := by decide +kernel
theorem dX5_rightByMost_27 : decode cX5_rightByMost 27 = .ok (.imul, 1) := by decide +kernel
theorem dX5_rightByMost_28 : decode cX5_rightByMost 28 = .ok (.iload_n 1, 1) := by decide +kernel
theorem dX5_rightByMost_29 : decode cX5_rightByMost 29 = .ok (.invokestatic 176, 3) := by decide +kernel
theorem dX5_rightByMost_32 : decode cX5_rightByMost 32 = .ok (.if_icmp .le 6, 3) := by decide +kernel
theorem dX5_rightByMost_35 : decode cX5_rightByMost 35 = .ok (.iinc 2 1, 3) := by decide +kernel
theorem dX5_rightByMost_38 : decode cX5_rightByMost 38 = .ok (.iinc 3 1, 3) := by decide +kernel
theorem dX5_rightByMost_41 : decode cX5_rightByMost 41 = .ok (.goto (-37), 3) := by decide +kernel
theorem dX5_rightByMost_44 : decode cX5_rightByMost 44 = .ok (.iload_n 2, 1) := by decide +kernel
theorem dX5_rightByMost_45 : decode cX5_rightByMost 45 = .ok (.ireturn, 1) := by decide +kernel
theorem dX5_ordersBehind_0 : decode cX5_ordersBehind 0 = .ok (.iload_n 1, 1) := by decide +kernel
theorem dX5_ordersBehind_1 : decode cX5_ordersBehind 1 = .ok (.invokestatic 176, 3) := by decide +kernel
theorem dX5_ordersBehind_4 : decode cX5_ordersBehind 4 = .ok (.istore_n 2, 1) := by decide +kernel
theorem dX5_ordersBehind_5 : decode cX5_ordersBehind 5 = .ok (.iload_n 2, 1) := by decide +kernel
theorem dX5_ordersBehind_6 : decode cX5_ordersBehind 6 = .ok (.invokestatic 219, 3) := by decide +kernel
theorem dX5_ordersBehind_9 : decode cX5_ordersBehind 9 = .ok (.aload_n 0, 1) := by decide +kernel
theorem dX5_ordersBehind_10 : decode cX5_ordersBehind 10 = .ok (.getfield 19, 3) := by decide +kernel
theorem dX5_ordersBehind_13 : decode cX5_ordersBehind 13 = .ok (.getfield 82, 3) := by decide +kernel
theorem dX5_ordersBehind_16 : decode cX5_ordersBehind 16 = .ok (.iconst 1, 1) := by decide +kernel
theorem dX5_ordersBehind_17 : decode cX5_ordersBehind 17 = .ok (.isub, 1) := by decide +kernel
theorem dX5_ordersBehind_18 : decode cX5_ordersBehind 18 = .ok (.iload_n 2, 1) := by decide +kernel
theorem dX5_ordersBehind_19 : decode cX5_ordersBehind 19 = .ok (.isub, 1) := by decide +kernel
theorem dX5_ordersBehind_20 : decode cX5_ordersBehind 20 = .ok (.invokestatic 219, 3) := by decide +kernel
theorem dX5_ordersBehind_23 : decode cX5_ordersBehind 23 = .ok (.imul, 1) := by decide +kernel
theorem dX5_ordersBehind_24 : decode cX5_ordersBehind 24 = .ok (.ireturn, 1) := by decide +kernel
theorem dX5_isContent_0 : decode cX5_isContent 0 = .ok (.iload_n 0, 1) := by decide +kernel
theorem dX5_isContent_1 : decode cX5_isContent 1 = .ok (.iload_n 1, 1) := by decide +kernel
theorem dX5_isContent_2 : decode cX5_isContent 2 = .ok (.iload_n 2, 1) := by decide +kernel
theorem dX5_isContent_3 : decode cX5_isContent 3 = .ok (.iload_n 3, 1) := by decide +kernel
theorem dX5_isContent_4 : decode cX5_isContent 4 = .ok (.invokestatic 266, 3) := by decide +kernel
theorem dX5_isContent_7 : decode cX5_isContent 7 = .ok (.iconst 1, 1) := by decide +kernel
theorem dX5_isContent_8 : decode cX5_isContent 8 = .ok (.iload_n 0, 1) := by decide +kernel
theorem dX5_isContent_9 : decode cX5_isContent 9 = .ok (.isub, 1) := by decide +kernel
theorem dX5_isContent_10 : decode cX5_isContent 10 = .ok (.iload_n 1, 1) := by decide +kernel
theorem dX5_isContent_11 : decode cX5_isContent 11 = .ok (.iload_n 2, 1) := by decide +kernel
theorem dX5_isContent_12 : decode cX5_isContent 12 = .ok (.iload_n 3, 1) := by decide +kernel
theorem dX5_isContent_13 : decode cX5_isContent 13 = .ok (.invokestatic 266, 3) := by decide +kernel
theorem dX5_isContent_16 : decode cX5_isContent 16 = .ok (.if_icmp .lt 7, 3) := by decide +kernel
theorem dX5_isContent_19 : decode cX5_isContent 19 = .ok (.iconst 1, 1) := by decide +kernel
theorem dX5_isContent_20 : decode cX5_isContent 20 = .ok (.goto 4, 3) := by decide +kernel
theorem dX5_isContent_23 : decode cX5_isContent 23 = .ok (.iconst 0, 1) := by decide +kernel
theorem dX5_isContent_24 : decode cX5_isContent 24 = .ok (.ireturn, 1) := by decide +kernel
theorem dX5_gain_0 : decode cX5_gain 0 = .ok (.iload_n 0, 1) := by decide +kernel
theorem dX5_gain_1 : decode cX5_gain 1 = .ok (.ifCond .ne 5, 3) := by decide +kernel
theorem dX5_gain_4 : decode cX5_gain 4 = .ok (.iconst 0, 1) := by decide +kernel
theorem dX5_gain_5 : decode cX5_gain 5 = .ok (.ireturn, 1) := by decide +kernel
theorem dX5_gain_6 : decode cX5_gain 6 = .ok (.iload_n 1, 1) := by decide +kernel
theorem dX5_gain_7 : decode cX5_gain 7 = .ok (.ifCond .ne 13, 3) := by decide +kernel
theorem dX5_gain_10 : decode cX5_gain 10 = .ok (.iload_n 2, 1) := by decide +kernel
theorem dX5_gain_11 : decode cX5_gain 11 = .ok (.ifCond .eq 7, 3) := by decide +kernel
theorem dX5_gain_14 : decode cX5_gain 14 = .ok (.iconst 2, 1) := by decide +kernel
theorem dX5_gain_15 : decode cX5_gain 15 = .ok (.goto 4, 3) := by decide +kernel
theorem dX5_gain_18 : decode cX5_gain 18 = .ok (.iconst (-1), 1) := by decide +kernel
theorem dX5_gain_19 : decode cX5_gain 19 = .ok (.ireturn, 1) := by decide +kernel
theorem dX5_gain_20 : decode cX5_gain 20 = .ok (.iload_n 2, 1) := by decide +kernel
theorem dX5_gain_21 : decode cX5_gain 21 = .ok (.iload_n 3, 1) := by decide +kernel
theorem dX5_gain_22 : decode cX5_gain 22 = .ok (.if_icmp .ne 5, 3) := by decide +kernel
theorem dX5_gain_25 : decode cX5_gain 25 = .ok (.iconst 1, 1) := by decide +kernel
theorem dX5_gain_26 : decode cX5_gain 26 = .ok (.ireturn, 1) := by decide +kernel
theorem dX5_gain_27 : decode cX5_gain 27 = .ok (.iload_n 2, 1) := by decide +kernel
theorem dX5_gain_28 : decode cX5_gain 28 = .ok (.ifCond .eq 7, 3) := by decide +kernel
theorem dX5_gain_31 : decode cX5_gain 31 = .ok (.iconst 3, 1) := by decide +kernel
theorem dX5_gain_32 : decode cX5_gain 32 = .ok (.goto 5, 3) := by decide +kernel
theorem dX5_gain_35 : decode cX5_gain 35 = .ok (.bipush (-3), 2) := by decide +kernel
theorem dX5_gain_37 : decode cX5_gain 37 = .ok (.ireturn, 1) := by decide +kernel
theorem dX5_tenthsOfYes_0 : decode cX5_tenthsOfYes 0 = .ok (.aload_n 0, 1) := by decide +kernel
theorem dX5_tenthsOfYes_1 : decode cX5_tenthsOfYes 1 = .ok (.getfield 26, 3) := by decide +kernel
theorem dX5_tenthsOfYes_4 : decode cX5_tenthsOfYes 4 = .ok (.aload_n 0, 1) := by decide +kernel
theorem dX5_tenthsOfYes_5 : decode cX5_tenthsOfYes 5 = .ok (.getfield 19, 3) := by decide +kernel
theorem dX5_tenthsOfYes_8 : decode cX5_tenthsOfYes 8 = .ok (.iload_n 1, 1) := by decide +kernel
theorem dX5_tenthsOfYes_9 : decode cX5_tenthsOfYes 9 = .ok (.iload_n 2, 1) := by decide +kernel
theorem dX5_tenthsOfYes_10 : decode cX5_tenthsOfYes 10 = .ok (.invokevirtual 127, 3) := by decide +kernel
theorem dX5_tenthsOfYes_13 : decode cX5_tenthsOfYes 13 = .ok (.istore 4, 2) := by decide +kernel
theorem dX5_tenthsOfYes_15 : decode cX5_tenthsOfYes 15 = .ok (.aload_n 0, 1) := by decide +kernel
theorem dX5_tenthsOfYes_16 : decode cX5_tenthsOfYes 16 = .ok (.getfield 19, 3) := by decide +kernel
theorem dX5_tenthsOfYes_19 : decode cX5_tenthsOfYes 19 = .ok (.iload_n 1, 1) := by decide +kernel
theorem dX5_tenthsOfYes_20 : decode cX5_tenthsOfYes 20 = .ok (.iload 4, 2) := by decide +kernel
theorem dX5_tenthsOfYes_22 : decode cX5_tenthsOfYes 22 = .ok (.invokevirtual 260, 3) := by decide +kernel
theorem dX5_tenthsOfYes_25 : decode cX5_tenthsOfYes 25 = .ok (.ifCond .eq 6, 3) := by decide +kernel
theorem dX5_tenthsOfYes_28 : decode cX5_tenthsOfYes 28 = .ok (.bipush 10, 2) := by decide +kernel
theorem dX5_tenthsOfYes_30 : decode cX5_tenthsOfYes 30 = .ok (.ireturn, 1) := by decide +kernel
theorem dX5_tenthsOfYes_31 : decode cX5_tenthsOfYes 31 = .ok (.aload_n 0, 1) := by decide +kernel
theorem dX5_tenthsOfYes_32 : decode cX5_tenthsOfYes 32 = .ok (.getfield 19, 3) := by decide +kernel
theorem dX5_tenthsOfYes_35 : decode cX5_tenthsOfYes 35 = .ok (.iload_n 1, 1) := by decide +kernel
theorem dX5_tenthsOfYes_36 : decode cX5_tenthsOfYes 36 = .ok (.iload 4, 2) := by decide +kernel
theorem dX5_tenthsOfYes_38 : decode cX5_tenthsOfYes 38 = .ok (.iconst 1, 1) := by decide +kernel
theorem dX5_tenthsOfYes_39 : decode cX5_tenthsOfYes 39 = .ok (.iadd, 1) := by decide +kernel
theorem dX5_tenthsOfYes_40 : decode cX5_tenthsOfYes 40 = .ok (.invokevirtual 260, 3) := by decide +kernel
theorem dX5_tenthsOfYes_43 : decode cX5_tenthsOfYes 43 = .ok (.ifCond .eq 7, 3) := by decide +kernel
theorem dX5_tenthsOfYes_46 : decode cX5_tenthsOfYes 46 = .ok (.iload_n 3, 1) := by decide +kernel
theorem dX5_tenthsOfYes_47 : decode cX5_tenthsOfYes 47 = .ok (.goto 4, 3) := by decide +kernel
theorem dX5_tenthsOfYes_50 : decode cX5_tenthsOfYes 50 = .ok (.iconst 0, 1) := by decide +kernel
theorem dX5_tenthsOfYes_51 : decode cX5_tenthsOfYes 51 = .ok (.ireturn, 1) := by decide +kernel
theorem dX5_addToWays_0 : decode cX5_addToWays 0 = .ok (.aload_n 0, 1) := by decide +kernel
theorem dX5_addToWays_1 : decode cX5_addToWays 1 = .ok (.getfield 59, 3) := by decide +kernel
theorem dX5_addToWays_4 : decode cX5_addToWays 4 = .ok (.arraylength, 1) := by decide +kernel
theorem dX5_addToWays_5 : decode cX5_addToWays 5 = .ok (.iconst 1, 1) := by decide +kernel
theorem dX5_addToWays_6 : decode cX5_addToWays 6 = .ok (.isub, 1) := by decide +kernel
theorem dX5_addToWays_7 : decode cX5_addToWays 7 = .ok (.istore_n 2, 1) := by decide +kernel
theorem dX5_addToWays_8 : decode cX5_addToWays 8 = .ok (.iload_n 2, 1) := by decide +kernel
theorem dX5_addToWays_9 : decode cX5_addToWays 9 = .ok (.ifCond .le 37, 3) := by decide +kernel
theorem dX5_addToWays_12 : decode cX5_addToWays 12 = .ok (.aload_n 0, 1) := by decide +kernel
theorem dX5_addToWays_13 : decode cX5_addToWays 13 = .ok (.getfield 59, 3) := by decide +kernel
theorem dX5_addToWays_16 : decode cX5_addToWays 16 = .ok (.iload_n 2, 1) := by decide +kernel
theorem dX5_addToWays_17 : decode cX5_addToWays 17 = .ok (.aload_n 0, 1) := by decide +kernel
theorem dX5_addToWays_18 : decode cX5_addToWays 18 = .ok (.getfield 59, 3) := by decide +kernel
theorem dX5_addToWays_21 : decode cX5_addToWays 21 = .ok (.iload_n 2, 1) := by decide +kernel
theorem dX5_addToWays_22 : decode cX5_addToWays 22 = .ok (.iaload, 1) := by decide +kernel
theorem dX5_addToWays_23 : decode cX5_addToWays 23 = .ok (.bipush 10, 2) := by decide +kernel
theorem dX5_addToWays_25 : decode cX5_addToWays 25 = .ok (.iload_n 1, 1) := by decide +kernel
theorem dX5_addToWays_26 : decode cX5_addToWays 26 = .ok (.isub, 1) := by decide +kernel
theorem dX5_addToWays_27 : decode cX5_addToWays 27 = .ok (.imul, 1) := by decide +kernel
theorem dX5_addToWays_28 : decode cX5_addToWays 28 = .ok (.aload_n 0, 1) := by decide +kernel
theorem dX5_addToWays_29 : decode cX5_addToWays 29 = .ok (.getfield 59, 3) := by decide +kernel
theorem dX5_addToWays_32 : decode cX5_addToWays 32 = .ok (.iload_n 2, 1) := by decide +kernel
theorem dX5_addToWays_33 : decode cX5_addToWays 33 = .ok (.iconst 1, 1) := by decide +kernel
theorem dX5_addToWays_34 : decode cX5_addToWays 34 = .ok (.isub, 1) := by decide +kernel
theorem dX5_addToWays_35 : decode cX5_addToWays 35 = .ok (.iaload, 1) := by decide +kernel
theorem dX5_addToWays_36 : decode cX5_addToWays 36 = .ok (.iload_n 1, 1) := by decide +kernel
theorem dX5_addToWays_37 : decode cX5_addToWays 37 = .ok (.imul, 1) := by decide +kernel
theorem dX5_addToWays_38 : decode cX5_addToWays 38 = .ok (.iadd, 1) := by decide +kernel
theorem dX5_addToWays_39 : decode cX5_addToWays 39 = .ok (.iastore, 1) := by decide +kernel
theorem dX5_addToWays_40 : decode cX5_addToWays 40 = .ok (.iinc 2 (-1), 3) := by decide +kernel
theorem dX5_addToWays_43 : decode cX5_addToWays 43 = .ok (.goto (-35), 3) := by decide +kernel
theorem dX5_addToWays_46 : decode cX5_addToWays 46 = .ok (.aload_n 0, 1) := by decide +kernel
theorem dX5_addToWays_47 : decode cX5_addToWays 47 = .ok (.getfield 59, 3) := by decide +kernel
theorem dX5_addToWays_50 : decode cX5_addToWays 50 = .ok (.iconst 0, 1) := by decide +kernel
theorem dX5_addToWays_51 : decode cX5_addToWays 51 = .ok (.aload_n 0, 1) := by decide +kernel
theorem dX5_addToWays_52 : decode cX5_addToWays 52 = .ok (.getfield 59, 3) := by decide +kernel
theorem dX5_addToWays_55 : decode cX5_addToWays 55 = .ok (.iconst 0, 1) := by decide +kernel
theorem dX5_addToWays_56 : decode cX5_addToWays 56 = .ok (.iaload, 1) := by decide +kernel
theorem dX5_addToWays_57 : decode cX5_addToWays 57 = .ok (.bipush 10, 2) := by decide +kernel
theorem dX5_addToWays_59 : decode cX5_addToWays 59 = .ok (.iload_n 1, 1) := by decide +kernel
theorem dX5_addToWays_60 : decode cX5_addToWays 60 = .ok (.isub, 1) := by decide +kernel
theorem dX5_addToWays_61 : decode cX5_addToWays 61 = .ok (.imul, 1) := by decide +kernel
theorem dX5_addToWays_62 : decode cX5_addToWays 62 = .ok (.iastore, 1) := by decide +kernel
theorem dX5_addToWays_63 : decode cX5_addToWays 63 = .ok (.return_, 1) := by decide +kernel
theorem dX5_factorial_0 : decode cX5_factorial 0 = .ok (.iload_n 0, 1) := by decide +kernel
theorem dX5_factorial_1 : decode cX5_factorial 1 = .ok (.ifCond .lt 19, 3) := by decide +kernel
theorem dX5_factorial_4 : decode cX5_factorial 4 = .ok (.iload_n 0, 1) := by decide +kernel
theorem dX5_factorial_5 : decode cX5_factorial 5 = .ok (.getstatic 270, 3) := by decide +kernel
theorem dX5_factorial_8 : decode cX5_factorial 8 = .ok (.arraylength, 1) := by decide +kernel
theorem dX5_factorial_9 : decode cX5_factorial 9 = .ok (.if_icmp .ge 11, 3) := by decide +kernel
theorem dX5_factorial_12 : decode cX5_factorial 12 = .ok (.getstatic 270, 3) := by decide +kernel
theorem dX5_factorial_15 : decode cX5_factorial 15 = .ok (.iload_n 0, 1) := by decide +kernel
theorem dX5_factorial_16 : decode cX5_factorial 16 = .ok (.iaload, 1) := by decide +kernel
theorem dX5_factorial_17 : decode cX5_factorial 17 = .ok (.goto 4, 3) := by decide +kernel
theorem dX5_factorial_20 : decode cX5_factorial 20 = .ok (.iconst 0, 1) := by decide +kernel
theorem dX5_factorial_21 : decode cX5_factorial 21 = .ok (.ireturn, 1) := by decide +kernel
theorem dX5_fraction_0 : decode cX5_fraction 0 = .ok (.iload_n 0, 1) := by decide +kernel
theorem dX5_fraction_1 : decode cX5_fraction 1 = .ok (.invokestatic 273, 3) := by decide +kernel
theorem dX5_fraction_4 : decode cX5_fraction 4 = .ok (.iload_n 1, 1) := by decide +kernel
theorem dX5_fraction_5 : decode cX5_fraction 5 = .ok (.invokestatic 278, 3) := by decide +kernel
theorem dX5_fraction_8 : decode cX5_fraction 8 = .ok (.istore_n 3, 1) := by decide +kernel
theorem dX5_fraction_9 : decode cX5_fraction 9 = .ok (.iload_n 3, 1) := by decide +kernel
theorem dX5_fraction_10 : decode cX5_fraction 10 = .ok (.ifCond .ne 5, 3) := by decide +kernel
theorem dX5_fraction_13 : decode cX5_fraction 13 = .ok (.iconst 0, 1) := by decide +kernel
theorem dX5_fraction_14 : decode cX5_fraction 14 = .ok (.ireturn, 1) := by decide +kernel
theorem dX5_fraction_15 : decode cX5_fraction 15 = .ok (.iload_n 2, 1) := by decide +kernel
theorem dX5_fraction_16 : decode cX5_fraction 16 = .ok (.ifCond .eq 9, 3) := by decide +kernel
theorem dX5_fraction_19 : decode cX5_fraction 19 = .ok (.iload_n 0, 1) := by decide +kernel
theorem dX5_fraction_20 : decode cX5_fraction 20 = .ok (.iload_n 3, 1) := by decide +kernel
theorem dX5_fraction_21 : decode cX5_fraction 21 = .ok (.idiv, 1) := by decide +kernel
theorem dX5_fraction_22 : decode cX5_fraction 22 = .ok (.goto 6, 3) := by decide +kernel
theorem dX5_fraction_25 : decode cX5_fraction 25 = .ok (.iload_n 1, 1) := by decide +kernel
theorem dX5_fraction_26 : decode cX5_fraction 26 = .ok (.iload_n 3, 1) := by decide +kernel
theorem dX5_fraction_27 : decode cX5_fraction 27 = .ok (.idiv, 1) := by decide +kernel
theorem dX5_fraction_28 : decode cX5_fraction 28 = .ok (.ireturn, 1) := by decide +kernel
theorem dX5_commonDivisor_0 : decode cX5_commonDivisor 0 = .ok (.iload_n 0, 1) := by decide +kernel
theorem dX5_commonDivisor_1 : decode cX5_commonDivisor 1 = .ok (.istore_n 2, 1) := by decide +kernel
theorem dX5_commonDivisor_2 : decode cX5_commonDivisor 2 = .ok (.iload_n 1, 1) := by decide +kernel
theorem dX5_commonDivisor_3 : decode cX5_commonDivisor 3 = .ok (.istore_n 3, 1) := by decide +kernel
theorem dX5_commonDivisor_4 : decode cX5_commonDivisor 4 = .ok (.iconst 0, 1) := by decide +kernel
theorem dX5_commonDivisor_5 : decode cX5_commonDivisor 5 = .ok (.istore 4, 2) := by decide +kernel
theorem dX5_commonDivisor_7 : decode cX5_commonDivisor 7 = .ok (.iload 4, 2) := by decide +kernel
theorem dX5_commonDivisor_9 : decode cX5_commonDivisor 9 = .ok (.bipush 64, 2) := by decide +kernel
theorem dX5_commonDivisor_11 : decode cX5_commonDivisor 11 = .ok (.if_icmp .ge 23, 3) := by decide +kernel
theorem dX5_commonDivisor_14 : decode cX5_commonDivisor 14 = .ok (.iload_n 3, 1) := by decide +kernel
theorem dX5_commonDivisor_15 : decode cX5_commonDivisor 15 = .ok (.ifCond .eq 19, 3) := by decide +kernel
theorem dX5_commonDivisor_18 : decode cX5_commonDivisor 18 = .ok (.iload_n 2, 1) := by decide +kernel
theorem dX5_commonDivisor_19 : decode cX5_commonDivisor 19 = .ok (.iload_n 3, 1) := by decide +kernel
theorem dX5_commonDivisor_20 : decode cX5_commonDivisor 20 = .ok (.irem, 1) := by decide +kernel
theorem dX5_commonDivisor_21 : decode cX5_commonDivisor 21 = .ok (.istore 5, 2) := by decide +kernel
theorem dX5_commonDivisor_23 : decode cX5_commonDivisor 23 = .ok (.iload_n 3, 1) := by decide +kernel
theorem dX5_commonDivisor_24 : decode cX5_commonDivisor 24 = .ok (.istore_n 2, 1) := by decide +kernel
theorem dX5_commonDivisor_25 : decode cX5_commonDivisor 25 = .ok (.iload 5, 2) := by decide +kernel
theorem dX5_commonDivisor_27 : decode cX5_commonDivisor 27 = .ok (.istore_n 3, 1) := by decide +kernel
theorem dX5_commonDivisor_28 : decode cX5_commonDivisor 28 = .ok (.iinc 4 1, 3) := by decide +kernel
theorem dX5_commonDivisor_31 : decode cX5_commonDivisor 31 = .ok (.goto (-24), 3) := by decide +kernel
theorem dX5_commonDivisor_34 : decode cX5_commonDivisor 34 = .ok (.iload_n 2, 1) := by decide +kernel
theorem dX5_commonDivisor_35 : decode cX5_commonDivisor 35 = .ok (.ireturn, 1) := by decide +kernel
theorem dX5_hasFigures_0 : decode cX5_hasFigures 0 = .ok (.iload_n 0, 1) := by decide +kernel
theorem dX5_hasFigures_1 : decode cX5_hasFigures 1 = .ok (.ifCond .lt 28, 3) := by decide +kernel
theorem dX5_hasFigures_4 : decode cX5_hasFigures 4 = .ok (.iload_n 1, 1) := by decide +kernel
theorem dX5_hasFigures_5 : decode cX5_hasFigures 5 = .ok (.ifCond .lt 24, 3) := by decide +kernel
theorem dX5_hasFigures_8 : decode cX5_hasFigures 8 = .ok (.iload_n 1, 1) := by decide +kernel
theorem dX5_hasFigures_9 : decode cX5_hasFigures 9 = .ok (.getstatic 281, 3) := by decide +kernel
theorem dX5_hasFigures_12 : decode cX5_hasFigures 12 = .ok (.arraylength, 1) := by decide +kernel
theorem dX5_hasFigures_13 : decode cX5_hasFigures 13 = .ok (.if_icmp .ge 16, 3) := by decide +kernel
theorem dX5_hasFigures_16 : decode cX5_hasFigures 16 = .ok (.iload_n 0, 1) := by decide +kernel
theorem dX5_hasFigures_17 : decode cX5_hasFigures 17 = .ok (.getstatic 281, 3) := by decide +kernel
theorem dX5_hasFigures_20 : decode cX5_hasFigures 20 = .ok (.iload_n 1, 1) := by decide +kernel
theorem dX5_hasFigures_21 : decode cX5_hasFigures 21 = .ok (.iaload, 1) := by decide +kernel
theorem dX5_hasFigures_22 : decode cX5_hasFigures 22 = .ok (.if_icmp .ge 7, 3) := by decide +kernel
theorem dX5_hasFigures_25 : decode cX5_hasFigures 25 = .ok (.iconst 1, 1) := by decide +kernel
theorem dX5_hasFigures_26 : decode cX5_hasFigures 26 = .ok (.goto 4, 3) := by decide +kernel
theorem dX5_hasFigures_29 : decode cX5_hasFigures 29 = .ok (.iconst 0, 1) := by decide +kernel
theorem dX5_hasFigures_30 : decode cX5_hasFigures 30 = .ok (.ireturn, 1) := by decide +kernel
theorem dX5_figure_0 : decode cX5_figure 0 = .ok (.iload_n 1, 1) := by decide +kernel
theorem dX5_figure_1 : decode cX5_figure 1 = .ok (.ifCond .lt 11, 3) := by decide +kernel
theorem dX5_figure_4 : decode cX5_figure 4 = .ok (.iload_n 1, 1) := by decide +kernel
theorem dX5_figure_5 : decode cX5_figure 5 = .ok (.getstatic 281, 3) := by decide +kernel
theorem dX5_figure_8 : decode cX5_figure 8 = .ok (.arraylength, 1) := by decide +kernel
theorem dX5_figure_9 : decode cX5_figure 9 = .ok (.if_icmp .lt 5, 3) := by decide +kernel
theorem dX5_figure_12 : decode cX5_figure 12 = .ok (.iconst 0, 1) := by decide +kernel
theorem dX5_figure_13 : decode cX5_figure 13 = .ok (.ireturn, 1) := by decide +kernel
theorem dX5_figure_14 : decode cX5_figure 14 = .ok (.iload_n 0, 1) := by decide +kernel
theorem dX5_figure_15 : decode cX5_figure 15 = .ok (.getstatic 281, 3) := by decide +kernel
theorem dX5_figure_18 : decode cX5_figure 18 = .ok (.iload_n 1, 1) := by decide +kernel
theorem dX5_figure_19 : decode cX5_figure 19 = .ok (.iaload, 1) := by decide +kernel
theorem dX5_figure_20 : decode cX5_figure 20 = .ok (.idiv, 1) := by decide +kernel
theorem dX5_figure_21 : decode cX5_figure 21 = .ok (.bipush 10, 2) := by decide +kernel
theorem dX5_figure_23 : decode cX5_figure 23 = .ok (.irem, 1) := by decide +kernel
theorem dX5_figure_24 : decode cX5_figure 24 = .ok (.ireturn, 1) := by decide +kernel
theorem dJ6_bitCount_0f7a4_0 : decode cJ6_bitCount_0f7a4 0 = .ok (.iload_n 0, 1) := by decide +kernel
theorem dJ6_bitCount_0f7a4_1 : decode cJ6_bitCount_0f7a4 1 = .ok (.iload_n 0, 1) := by decide +kernel
theorem dJ6_bitCount_0f7a4_2 : decode cJ6_bitCount_0f7a4 2 = .ok (.iconst 1, 1) := by decide +kernel
theorem dJ6_bitCount_0f7a4_3 : decode cJ6_bitCount_0f7a4 3 = .ok (.iushr, 1) := by decide +kernel
theorem dJ6_bitCount_0f7a4_4 : decode cJ6_bitCount_0f7a4 4 = .ok (.ldc_w 265, 3) := by decide +kernel
theorem dJ6_bitCount_0f7a4_7 : decode cJ6_bitCount_0f7a4 7 = .ok (.iand, 1) := by decide +kernel
theorem dJ6_bitCount_0f7a4_8 : decode cJ6_bitCount_0f7a4 8 = .ok (.isub, 1) := by decide +kernel
theorem dJ6_bitCount_0f7a4_9 : decode cJ6_bitCount_0f7a4 9 = .ok (.istore_n 0, 1) := by decide +kernel
theorem dJ6_bitCount_0f7a4_10 : decode cJ6_bitCount_0f7a4 10 = .ok (.iload_n 0, 1) := by decide +kernel
theorem dJ6_bitCount_0f7a4_11 : decode cJ6_bitCount_0f7a4 11 = .ok (.ldc_w 266, 3) := by decide +kernel
theorem dJ6_bitCount_0f7a4_14 : decode cJ6_bitCount_0f7a4 14 = .ok (.iand, 1) := by decide +kernel
theorem dJ6_bitCount_0f7a4_15 : decode cJ6_bitCount_0f7a4 15 = .ok (.iload_n 0, 1) := by decide +kernel
theorem dJ6_bitCount_0f7a4_16 : decode cJ6_bitCount_0f7a4 16 = .ok (.iconst 2, 1) := by decide +kernel
theorem dJ6_bitCount_0f7a4_17 : decode cJ6_bitCount_0f7a4 17 = .ok (.iushr, 1) := by decide +kernel
theorem dJ6_bitCount_0f7a4_18 : decode cJ6_bitCount_0f7a4 18 = .ok (.ldc_w 266, 3) := by decide +kernel
theorem dJ6_bitCount_0f7a4_21 : decode cJ6_bitCount_0f7a4 21 = .ok (.iand, 1) := by decide +kernel
theorem dJ6_bitCount_0f7a4_22 : decode cJ6_bitCount_0f7a4 22 = .ok (.iadd, 1) := by decide +kernel
theorem dJ6_bitCount_0f7a4_23 : decode cJ6_bitCount_0f7a4 23 = .ok (.istore_n 0, 1) := by decide +kernel
theorem dJ6_bitCount_0f7a4_24 : decode cJ6_bitCount_0f7a4 24 = .ok (.iload_n 0, 1) := by decide +kernel
theorem dJ6_bitCount_0f7a4_25 : decode cJ6_bitCount_0f7a4 25 = .ok (.iload_n 0, 1) := by decide +kernel
theorem dJ6_bitCount_0f7a4_26 : decode cJ6_bitCount_0f7a4 26 = .ok (.iconst 4, 1) := by decide +kernel
theorem dJ6_bitCount_0f7a4_27 : decode cJ6_bitCount_0f7a4 27 = .ok (.iushr, 1) := by decide +kernel
theorem dJ6_bitCount_0f7a4_28 : decode cJ6_bitCount_0f7a4 28 = .ok (.iadd, 1) := by decide +kernel
theorem dJ6_bitCount_0f7a4_29 : decode cJ6_bitCount_0f7a4 29 = .ok (.ldc_w 267, 3) := by decide +kernel
theorem dJ6_bitCount_0f7a4_32 : decode cJ6_bitCount_0f7a4 32 = .ok (.iand, 1) := by decide +kernel
theorem dJ6_bitCount_0f7a4_33 : decode cJ6_bitCount_0f7a4 33 = .ok (.istore_n 0, 1) := by decide +kernel
theorem dJ6_bitCount_0f7a4_34 : decode cJ6_bitCount_0f7a4 34 = .ok (.iload_n 0, 1) := by decide +kernel
theorem dJ6_bitCount_0f7a4_35 : decode cJ6_bitCount_0f7a4 35 = .ok (.iload_n 0, 1) := by decide +kernel
theorem dJ6_bitCount_0f7a4_36 : decode cJ6_bitCount_0f7a4 36 = .ok (.bipush 8, 2) := by decide +kernel
theorem dJ6_bitCount_0f7a4_38 : decode cJ6_bitCount_0f7a4 38 = .ok (.iushr, 1) := by decide +kernel
theorem dJ6_bitCount_0f7a4_39 : decode cJ6_bitCount_0f7a4 39 = .ok (.iadd, 1) := by decide +kernel
theorem dJ6_bitCount_0f7a4_40 : decode cJ6_bitCount_0f7a4 40 = .ok (.istore_n 0, 1) := by decide +kernel
theorem dJ6_bitCount_0f7a4_41 : decode cJ6_bitCount_0f7a4 41 = .ok (.iload_n 0, 1) := by decide +kernel
theorem dJ6_bitCount_0f7a4_42 : decode cJ6_bitCount_0f7a4 42 = .ok (.iload_n 0, 1) := by decide +kernel
theorem dJ6_bitCount_0f7a4_43 : decode cJ6_bitCount_0f7a4 43 = .ok (.bipush 16, 2) := by decide +kernel
theorem dJ6_bitCount_0f7a4_45 : decode cJ6_bitCount_0f7a4 45 = .ok (.iushr, 1) := by decide +kernel
theorem dJ6_bitCount_0f7a4_46 : decode cJ6_bitCount_0f7a4 46 = .ok (.iadd, 1) := by decide +kernel
theorem dJ6_bitCount_0f7a4_47 : decode cJ6_bitCount_0f7a4 47 = .ok (.istore_n 0, 1) := by decide +kernel
theorem dJ6_bitCount_0f7a4_48 : decode cJ6_bitCount_0f7a4 48 = .ok (.iload_n 0, 1) := by decide +kernel
theorem dJ6_bitCount_0f7a4_49 : decode cJ6_bitCount_0f7a4 49 = .ok (.bipush 63, 2) := by decide +kernel
theorem dJ6_bitCount_0f7a4_51 : decode cJ6_bitCount_0f7a4 51 = .ok (.iand, 1) := by decide +kernel
theorem dJ6_bitCount_0f7a4_52 : decode cJ6_bitCount_0f7a4 52 = .ok (.ireturn, 1) := by decide +kernel
theorem dJ9_abs_0f7a4_0 : decode cJ9_abs_0f7a4 0 = .ok (.iload_n 0, 1) := by decide +kernel
theorem dJ9_abs_0f7a4_1 : decode cJ9_abs_0f7a4 1 = .ok (.ifCond .ge 8, 3) := by decide +kernel
theorem dJ9_abs_0f7a4_4 : decode cJ9_abs_0f7a4 4 = .ok (.iload_n 0, 1) := by decide +kernel
theorem dJ9_abs_0f7a4_5 : decode cJ9_abs_0f7a4 5 = .ok (.ineg, 1) := by decide +kernel
theorem dJ9_abs_0f7a4_6 : decode cJ9_abs_0f7a4 6 = .ok (.goto 4, 3) := by decide +kernel
theorem dJ9_abs_0f7a4_9 : decode cJ9_abs_0f7a4 9 = .ok (.iload_n 0, 1) := by decide +kernel
theorem dJ9_abs_0f7a4_10 : decode cJ9_abs_0f7a4 10 = .ok (.ireturn, 1) := by decide +kernel
theorem dJ9_max_7cf53_0 : decode cJ9_max_7cf53 0 = .ok (.iload_n 0, 1) := by decide +kernel
theorem dJ9_max_7cf53_1 : decode cJ9_max_7cf53 1 = .ok (.iload_n 1, 1) := by decide +kernel
theorem dJ9_max_7cf53_2 : decode cJ9_max_7cf53 2 = .ok (.if_icmp .lt 7, 3) := by decide +kernel
theorem dJ9_max_7cf53_5 : decode cJ9_max_7cf53 5 = .ok (.iload_n 0, 1) := by decide +kernel
theorem dJ9_max_7cf53_6 : decode cJ9_max_7cf53 6 = .ok (.goto 4, 3) := by decide +kernel
theorem dJ9_max_7cf53_9 : decode cJ9_max_7cf53 9 = .ok (.iload_n 1, 1) := by decide +kernel
theorem dJ9_max_7cf53_10 : decode cJ9_max_7cf53 10 = .ok (.ireturn, 1) := by decide +kernel
theorem dJ9_min_7cf53_0 : decode cJ9_min_7cf53 0 = .ok (.iload_n 0, 1) := by decide +kernel
theorem dJ9_min_7cf53_1 : decode cJ9_min_7cf53 1 = .ok (.iload_n 1, 1) := by decide +kernel
theorem dJ9_min_7cf53_2 : decode cJ9_min_7cf53 2 = .ok (.if_icmp .gt 7, 3) := by decide +kernel
theorem dJ9_min_7cf53_5 : decode cJ9_min_7cf53 5 = .ok (.iload_n 0, 1) := by decide +kernel
theorem dJ9_min_7cf53_6 : decode cJ9_min_7cf53 6 = .ok (.goto 4, 3) := by decide +kernel
theorem dJ9_min_7cf53_9 : decode cJ9_min_7cf53 9 = .ok (.iload_n 1, 1) := by decide +kernel
theorem dJ9_min_7cf53_10 : decode cJ9_min_7cf53 10 = .ok (.ireturn, 1) := by decide +kernel
