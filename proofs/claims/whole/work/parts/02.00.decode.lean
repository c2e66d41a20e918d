theorem dX0_init_0 : decode cX0_init 0 = .ok (.aload_n 0, 1) := by decide +kernel
theorem dX0_init_1 : decode cX0_init 1 = .ok (.invokespecial 3, 3) := by decide +kernel
theorem dX0_init_4 : decode cX0_init 4 = .ok (.aload_n 0, 1) := by decide +kernel
theorem dX0_init_5 : decode cX0_init 5 = .ok (.bipush 30, 2) := by decide +kernel
theorem dX0_init_7 : decode cX0_init 7 = .ok (.newarray .int, 2) := by decide +kernel
theorem dX0_init_9 : decode cX0_init 9 = .ok (.putfield 9, 3) := by decide +kernel
theorem dX0_init_12 : decode cX0_init 12 = .ok (.aload_n 0, 1) := by decide +kernel
theorem dX0_init_13 : decode cX0_init 13 = .ok (.new 15, 3) := by decide +kernel
theorem dX0_init_16 : decode cX0_init 16 = .ok (.dup, 1) := by decide +kernel
theorem dX0_init_17 : decode cX0_init 17 = .ok (.invokespecial 17, 3) := by decide +kernel
theorem dX0_init_20 : decode cX0_init 20 = .ok (.putfield 18, 3) := by decide +kernel
theorem dX0_init_23 : decode cX0_init 23 = .ok (.aload_n 0, 1) := by decide +kernel
theorem dX0_init_24 : decode cX0_init 24 = .ok (.iconst 0, 1) := by decide +kernel
theorem dX0_init_25 : decode cX0_init 25 = .ok (.putfield 22, 3) := by decide +kernel
theorem dX0_init_28 : decode cX0_init 28 = .ok (.aload_n 0, 1) := by decide +kernel
theorem dX0_init_29 : decode cX0_init 29 = .ok (.iconst 0, 1) := by decide +kernel
theorem dX0_init_30 : decode cX0_init 30 = .ok (.putfield 26, 3) := by decide +kernel
theorem dX0_init_33 : decode cX0_init 33 = .ok (.return_, 1) := by decide +kernel
theorem dX0_note_0 : decode cX0_note 0 = .ok (.aload_n 0, 1) := by decide +kernel
theorem dX0_note_1 : decode cX0_note 1 = .ok (.getfield 22, 3) := by decide +kernel
theorem dX0_note_4 : decode cX0_note 4 = .ok (.bipush 30, 2) := by decide +kernel
theorem dX0_note_6 : decode cX0_note 6 = .ok (.if_icmp .ge 23, 3) := by decide +kernel
theorem dX0_note_9 : decode cX0_note 9 = .ok (.aload_n 0, 1) := by decide +kernel
theorem dX0_note_10 : decode cX0_note 10 = .ok (.getfield 9, 3) := by decide +kernel
theorem dX0_note_13 : decode cX0_note 13 = .ok (.aload_n 0, 1) := by decide +kernel
theorem dX0_note_14 : decode cX0_note 14 = .ok (.getfield 22, 3) := by decide +kernel
theorem dX0_note_17 : decode cX0_note 17 = .ok (.iload_n 1, 1) := by decide +kernel
theorem dX0_note_18 : decode cX0_note 18 = .ok (.iastore, 1) := by decide +kernel
theorem dX0_note_19 : decode cX0_note 19 = .ok (.aload_n 0, 1) := by decide +kernel
theorem dX0_note_20 : decode cX0_note 20 = .ok (.dup, 1) := by decide +kernel
theorem dX0_note_21 : decode cX0_note 21 = .ok (.getfield 22, 3) := by decide +kernel
theorem dX0_note_24 : decode cX0_note 24 = .ok (.iconst 1, 1) := by decide +kernel
theorem dX0_note_25 : decode cX0_note 25 = .ok (.iadd, 1) := by decide +kernel
theorem dX0_note_26 : decode cX0_note 26 = .ok (.putfield 22, 3) := by decide +kernel
theorem dX0_note_29 : decode cX0_note 29 = .ok (.aload_n 0, 1) := by decide +kernel
theorem dX0_note_30 : decode cX0_note 30 = .ok (.getfield 22, 3) := by decide +kernel
theorem dX0_note_33 : decode cX0_note 33 = .ok (.ireturn, 1) := by decide +kernel
theorem dX0_tryFrom_0 : decode cX0_tryFrom 0 = .ok (.aload_n 0, 1) := by decide +kernel
theorem dX0_tryFrom_1 : decode cX0_tryFrom 1 = .ok (.getfield 18, 3) := by decide +kernel
theorem dX0_tryFrom_4 : decode cX0_tryFrom 4 = .ok (.aload_n 2, 1) := by decide +kernel
theorem dX0_tryFrom_5 : decode cX0_tryFrom 5 = .ok (.invokevirtual 29, 3) := by decide +kernel
theorem dX0_tryFrom_8 : decode cX0_tryFrom 8 = .ok (.aload_n 0, 1) := by decide +kernel
theorem dX0_tryFrom_9 : decode cX0_tryFrom 9 = .ok (.iconst 0, 1) := by decide +kernel
theorem dX0_tryFrom_10 : decode cX0_tryFrom 10 = .ok (.putfield 26, 3) := by decide +kernel
theorem dX0_tryFrom_13 : decode cX0_tryFrom 13 = .ok (.iconst 0, 1) := by decide +kernel
theorem dX0_tryFrom_14 : decode cX0_tryFrom 14 = .ok (.istore_n 3, 1) := by decide +kernel
theorem dX0_tryFrom_15 : decode cX0_tryFrom 15 = .ok (.iload_n 3, 1) := by decide +kernel
theorem dX0_tryFrom_16 : decode cX0_tryFrom 16 = .ok (.aload_n 0, 1) := by decide +kernel
theorem dX0_tryFrom_17 : decode cX0_tryFrom 17 = .ok (.getfield 22, 3) := by decide +kernel
theorem dX0_tryFrom_20 : decode cX0_tryFrom 20 = .ok (.if_icmp .ge 52, 3) := by decide +kernel
theorem dX0_tryFrom_23 : decode cX0_tryFrom 23 = .ok (.aload_n 0, 1) := by decide +kernel
theorem dX0_tryFrom_24 : decode cX0_tryFrom 24 = .ok (.getfield 18, 3) := by decide +kernel
theorem dX0_tryFrom_27 : decode cX0_tryFrom 27 = .ok (.aload_n 1, 1) := by decide +kernel
theorem dX0_tryFrom_28 : decode cX0_tryFrom 28 = .ok (.aload_n 0, 1) := by decide +kernel
theorem dX0_tryFrom_29 : decode cX0_tryFrom 29 = .ok (.getfield 9, 3) := by decide +kernel
theorem dX0_tryFrom_32 : decode cX0_tryFrom 32 = .ok (.iload_n 3, 1) := by decide +kernel
theorem dX0_tryFrom_33 : decode cX0_tryFrom 33 = .ok (.iaload, 1) := by decide +kernel
theorem dX0_tryFrom_34 : decode cX0_tryFrom 34 = .ok (.invokevirtual 33, 3) := by decide +kernel
theorem dX0_tryFrom_37 : decode cX0_tryFrom 37 = .ok (.ifCond .ne 5, 3) := by decide +kernel
theorem dX0_tryFrom_40 : decode cX0_tryFrom 40 = .ok (.iload_n 3, 1) := by decide +kernel
theorem dX0_tryFrom_41 : decode cX0_tryFrom 41 = .ok (.ireturn, 1) := by decide +kernel
theorem dX0_tryFrom_42 : decode cX0_tryFrom 42 = .ok (.aload_n 0, 1) := by decide +kernel
theorem dX0_tryFrom_43 : decode cX0_tryFrom 43 = .ok (.dup, 1) := by decide +kernel
theorem dX0_tryFrom_44 : decode cX0_tryFrom 44 = .ok (.getfield 26, 3) := by decide +kernel
theorem dX0_tryFrom_47 : decode cX0_tryFrom 47 = .ok (.aload_n 0, 1) := by decide +kernel
theorem dX0_tryFrom_48 : decode cX0_tryFrom 48 = .ok (.getfield 18, 3) := by decide +kernel
theorem dX0_tryFrom_51 : decode cX0_tryFrom 51 = .ok (.aload_n 1, 1) := by decide +kernel
theorem dX0_tryFrom_52 : decode cX0_tryFrom 52 = .ok (.aload_n 0, 1) := by decide +kernel
theorem dX0_tryFrom_53 : decode cX0_tryFrom 53 = .ok (.getfield 9, 3) := by decide +kernel
theorem dX0_tryFrom_56 : decode cX0_tryFrom 56 = .ok (.iload_n 3, 1) := by decide +kernel
theorem dX0_tryFrom_57 : decode cX0_tryFrom 57 = .ok (.iaload, 1) := by decide +kernel
theorem dX0_tryFrom_58 : decode cX0_tryFrom 58 = .ok (.iconst 0, 1) := by decide +kernel
theorem dX0_tryFrom_59 : decode cX0_tryFrom 59 = .ok (.invokevirtual 37, 3) := by decide +kernel
theorem dX0_tryFrom_62 : decode cX0_tryFrom 62 = .ok (.iadd, 1) := by decide +kernel
theorem dX0_tryFrom_63 : decode cX0_tryFrom 63 = .ok (.putfield 26, 3) := by decide +kernel
theorem dX0_tryFrom_66 : decode cX0_tryFrom 66 = .ok (.iinc 3 1, 3) := by decide +kernel
theorem dX0_tryFrom_69 : decode cX0_tryFrom 69 = .ok (.goto (-54), 3) := by decide +kernel
theorem dX0_tryFrom_72 : decode cX0_tryFrom 72 = .ok (.iconst (-1), 1) := by decide +kernel
theorem dX0_tryFrom_73 : decode cX0_tryFrom 73 = .ok (.ireturn, 1) := by decide +kernel
theorem dX1_init_0 : decode cX1_init 0 = .ok (.aload_n 0, 1) := by decide +kernel
theorem dX1_init_1 : decode cX1_init 1 = .ok (.invokespecial 3, 3) := by decide +kernel
theorem dX1_init_4 : decode cX1_init 4 = .ok (.aload_n 0, 1) := by decide +kernel
theorem dX1_init_5 : decode cX1_init 5 = .ok (.bipush 12, 2) := by decide +kernel
theorem dX1_init_7 : decode cX1_init 7 = .ok (.newarray .int, 2) := by decide +kernel
theorem dX1_init_9 : decode cX1_init 9 = .ok (.putfield 9, 3) := by decide +kernel
theorem dX1_init_12 : decode cX1_init 12 = .ok (.aload_n 0, 1) := by decide +kernel
theorem dX1_init_13 : decode cX1_init 13 = .ok (.bipush 12, 2) := by decide +kernel
theorem dX1_init_15 : decode cX1_init 15 = .ok (.newarray .int, 2) := by decide +kernel
theorem dX1_init_17 : decode cX1_init 17 = .ok (.putfield 15, 3) := by decide +kernel
theorem dX1_init_20 : decode cX1_init 20 = .ok (.aload_n 0, 1) := by decide +kernel
theorem dX1_init_21 : decode cX1_init 21 = .ok (.iconst 0, 1) := by decide +kernel
theorem dX1_init_22 : decode cX1_init 22 = .ok (.putfield 18, 3) := by decide +kernel
theorem dX1_init_25 : decode cX1_init 25 = .ok (.aload_n 0, 1) := by decide +kernel
theorem dX1_init_26 : decode cX1_init 26 = .ok (.sipush 248, 3) := by decide +kernel
theorem dX1_init_29 : decode cX1_init 29 = .ok (.newarray .int, 2) := by decide +kernel
theorem dX1_init_31 : decode cX1_init 31 = .ok (.putfield 22, 3) := by decide +kernel
theorem dX1_init_34 : decode cX1_init 34 = .ok (.aload_n 0, 1) := by decide +kernel
theorem dX1_init_35 : decode cX1_init 35 = .ok (.bipush 39, 2) := by decide +kernel
theorem dX1_init_37 : decode cX1_init 37 = .ok (.newarray .int, 2) := by decide +kernel
theorem dX1_init_39 : decode cX1_init 39 = .ok (.putfield 25, 3) := by decide +kernel
theorem dX1_init_42 : decode cX1_init 42 = .ok (.return_, 1) := by decide +kernel
theorem dX1_note_0 : decode cX1_note 0 = .ok (.aload_n 0, 1) := by decide +kernel
theorem dX1_note_1 : decode cX1_note 1 = .ok (.getfield 18, 3) := by decide +kernel
theorem dX1_note_4 : decode cX1_note 4 = .ok (.bipush 12, 2) := by decide +kernel
theorem dX1_note_6 : decode cX1_note 6 = .ok (.if_icmp .ge 33, 3) := by decide +kernel
theorem dX1_note_9 : decode cX1_note 9 = .ok (.aload_n 0, 1) := by decide +kernel
theorem dX1_note_10 : decode cX1_note 10 = .ok (.getfield 9, 3) := by decide +kernel
theorem dX1_note_13 : decode cX1_note 13 = .ok (.aload_n 0, 1) := by decide +kernel
theorem dX1_note_14 : decode cX1_note 14 = .ok (.getfield 18, 3) := by decide +kernel
theorem dX1_note_17 : decode cX1_note 17 = .ok (.iload_n 1, 1) := by decide +kernel
theorem dX1_note_18 : decode cX1_note 18 = .ok (.iastore, 1) := by decide +kernel
theorem dX1_note_19 : decode cX1_note 19 = .ok (.aload_n 0, 1) := by decide +kernel
theorem dX1_note_20 : decode cX1_note 20 = .ok (.getfield 15, 3) := by decide +kernel
theorem dX1_note_23 : decode cX1_note 23 = .ok (.aload_n 0, 1) := by decide +kernel
theorem dX1_note_24 : decode cX1_note 24 = .ok (.getfield 18, 3) := by decide +kernel
theorem dX1_note_27 : decode cX1_note 27 = .ok (.iload_n 2, 1) := by decide +kernel
theorem dX1_note_28 : decode cX1_note 28 = .ok (.iastore, 1) := by decide +kernel
theorem dX1_note_29 : decode cX1_note 29 = .ok (.aload_n 0, 1) := by decide +kernel
theorem dX1_note_30 : decode cX1_note 30 = .ok (.dup, 1) := by decide +kernel
theorem dX1_note_31 : decode cX1_note 31 = .ok (.getfield 18, 3) := by decide +kernel
theorem dX1_note_34 : decode cX1_note 34 = .ok (.iconst 1, 1) := by decide +kernel
theorem dX1_note_35 : decode cX1_note 35 = .ok (.iadd, 1) := by decide +kernel
theorem dX1_note_36 : decode cX1_note 36 = .ok (.putfield 18, 3) := by decide +kernel
theorem dX1_note_39 : decode cX1_note 39 = .ok (.aload_n 0, 1) := by decide +kernel
theorem dX1_note_40 : decode cX1_note 40 = .ok (.getfield 18, 3) := by decide +kernel
theorem dX1_note_43 : decode cX1_note 43 = .ok (.ireturn, 1) := by decide +kernel
theorem dX1_gather_0 : decode cX1_gather 0 = .ok (.iconst 0, 1) := by decide +kernel
theorem dX1_gather_1 : decode cX1_gather 1 = .ok (.istore_n 2, 1) := by decide +kernel
theorem dX1_gather_2 : decode cX1_gather 2 = .ok (.iconst 0, 1) := by decide +kernel
theorem dX1_gather_3 : decode cX1_gather 3 = .ok (.istore_n 3, 1) := by decide +kernel
theorem dX1_gather_4 : decode cX1_gather 4 = .ok (.iload_n 3, 1) := by decide +kernel
theorem dX1_gather_5 : decode cX1_gather 5 = .ok (.iload_n 1, 1) := by decide +kernel
theorem dX1_gather_6 : decode cX1_gather 6 = .ok (.if_icmp .ge 60, 3) := by decide +kernel
theorem dX1_gather_9 : decode cX1_gather 9 = .ok (.iconst 0, 1) := by decide +kernel
theorem dX1_gather_10 : decode cX1_gather 10 = .ok (.istore 4, 2) := by decide +kernel
theorem dX1_gather_12 : decode cX1_gather 12 = .ok (.iload 4, 2) := by decide +kernel
theorem dX1_gather_14 : decode cX1_gather 14 = .ok (.bipush 30, 2) := by decide +kernel
theorem dX1_gather_16 : decode cX1_gather 16 = .ok (.if_icmp .gt 44, 3) := by decide +kernel
theorem dX1_gather_19 : decode cX1_gather 19 = .ok (.aload_n 0, 1) := by decide +kernel
theorem dX1_gather_20 : decode cX1_gather 20 = .ok (.iload_n 3, 1) := by decide +kernel
theorem dX1_gather_21 : decode cX1_gather 21 = .ok (.iload 4, 2) := by decide +kernel
theorem dX1_gather_23 : decode cX1_gather 23 = .ok (.invokevirtual 28, 3) := by decide +kernel
theorem dX1_gather_26 : decode cX1_gather 26 = .ok (.ifCond .eq 28, 3) := by decide +kernel
theorem dX1_gather_29 : decode cX1_gather 29 = .ok (.iload_n 2, 1) := by decide +kernel
theorem dX1_gather_30 : decode cX1_gather 30 = .ok (.aload_n 0, 1) := by decide +kernel
theorem dX1_gather_31 : decode cX1_gather 31 = .ok (.getfield 22, 3) := by decide +kernel
theorem dX1_gather_34 : decode cX1_gather 34 = .ok (.arraylength, 1) := by decide +kernel
theorem dX1_gather_35 : decode cX1_gather 35 = .ok (.if_icmp .ge 19, 3) := by decide +kernel
theorem dX1_gather_38 : decode cX1_gather 38 = .ok (.aload_n 0, 1) := by decide +kernel
theorem dX1_gather_39 : decode cX1_gather 39 = .ok (.getfield 22, 3) := by decide +kernel
theorem dX1_gather_42 : decode cX1_gather 42 = .ok (.iload_n 2, 1) := by decide +kernel
theorem dX1_gather_43 : decode cX1_gather 43 = .ok (.bipush 100, 2) := by decide +kernel
theorem dX1_gather_45 : decode cX1_gather 45 = .ok (.iload_n 3, 1) := by decide +kernel
theorem dX1_gather_46 : decode cX1_gather 46 = .ok (.imul, 1) := by decide +kernel
theorem dX1_gather_47 : decode cX1_gather 47 = .ok (.iload 4, 2) := by decide +kernel
theorem dX1_gather_49 : decode cX1_gather 49 = .ok (.iadd, 1) := by decide +kernel
theorem dX1_gather_50 : decode cX1_gather 50 = .ok (.iastore, 1) := by decide +kernel
theorem dX1_gather_51 : decode cX1_gather 51 = .ok (.iinc 2 1, 3) := by decide +kernel
theorem dX1_gather_54 : decode cX1_gather 54 = .ok (.iinc 4 1, 3) := by decide +kernel
theorem dX1_gather_57 : decode cX1_gather 57 = .ok (.goto (-45), 3) := by decide +kernel
theorem dX1_gather_60 : decode cX1_gather 60 = .ok (.iinc 3 1, 3) := by decide +kernel
theorem dX1_gather_63 : decode cX1_gather 63 = .ok (.goto (-59), 3) := by decide +kernel
theorem dX1_gather_66 : decode cX1_gather 66 = .ok (.iload_n 2, 1) := by decide +kernel
theorem dX1_gather_67 : decode cX1_gather 67 = .ok (.ireturn, 1) := by decide +kernel
theorem dX1_explains_0 : decode cX1_explains 0 = .ok (.iconst 0, 1) := by decide +kernel
theorem dX1_explains_1 : decode cX1_explains 1 = .ok (.istore_n 3, 1) := by decide +kernel
theorem dX1_explains_2 : decode cX1_explains 2 = .ok (.iload_n 3, 1) := by decide +kernel
theorem dX1_explains_3 : decode cX1_explains 3 = .ok (.aload_n 0, 1) := by decide +kernel
theorem dX1_explains_4 : decode cX1_explains 4 = .ok (.getfield 18, 3) := by decide +kernel
theorem dX1_explains_7 : decode cX1_explains 7 = .ok (.if_icmp .ge 33, 3) := by decide +kernel
theorem dX1_explains_10 : decode cX1_explains 10 = .ok (.iload_n 2, 1) := by decide +kernel
theorem dX1_explains_11 : decode cX1_explains 11 = .ok (.iload_n 1, 1) := by decide +kernel
theorem dX1_explains_12 : decode cX1_explains 12 = .ok (.aload_n 0, 1) := by decide +kernel
theorem dX1_explains_13 : decode cX1_explains 13 = .ok (.getfield 9, 3) := by decide +kernel
theorem dX1_explains_16 : decode cX1_explains 16 = .ok (.iload_n 3, 1) := by decide +kernel
theorem dX1_explains_17 : decode cX1_explains 17 = .ok (.iaload, 1) := by decide +kernel
theorem dX1_explains_18 : decode cX1_explains 18 = .ok (.isub, 1) := by decide +kernel
theorem dX1_explains_19 : decode cX1_explains 19 = .ok (.invokestatic 32, 3) := by decide +kernel
theorem dX1_explains_22 : decode cX1_explains 22 = .ok (.isub, 1) := by decide +kernel
theorem dX1_explains_23 : decode cX1_explains 23 = .ok (.aload_n 0, 1) := by decide +kernel
theorem dX1_explains_24 : decode cX1_explains 24 = .ok (.getfield 15, 3) := by decide +kernel
theorem dX1_explains_27 : decode cX1_explains 27 = .ok (.iload_n 3, 1) := by decide +kernel
theorem dX1_explains_28 : decode cX1_explains 28 = .ok (.iaload, 1) := by decide +kernel
theorem dX1_explains_29 : decode cX1_explains 29 = .ok (.if_icmp .eq 5, 3) := by decide +kernel
theorem dX1_explains_32 : decode cX1_explains 32 = .ok (.iconst 0, 1) := by decide +kernel
theorem dX1_explains_33 : decode cX1_explains 33 = .ok (.ireturn, 1) := by decide +kernel
theorem dX1_explains_34 : decode cX1_explains 34 = .ok (.iinc 3 1, 3) := by decide +kernel
theorem dX1_explains_37 : decode cX1_explains 37 = .ok (.goto (-35), 3) := by decide +kernel
theorem dX1_explains_40 : decode cX1_explains 40 = .ok (.iconst 1, 1) := by decide +kernel
theorem dX1_explains_41 : decode cX1_explains 41 = .ok (.ireturn, 1) := by decide +kernel
theorem dX1_bestWatch_0 : decode cX1_bestWatch 0 = .ok (.iconst (-1), 1) := by decide +kernel
theorem dX1_bestWatch_1 : decode cX1_bestWatch 1 = .ok (.istore_n 3, 1) := by decide +kernel
theorem dX1_bestWatch_2 : decode cX1_bestWatch 2 = .ok (.iload_n 1, 1) := by decide +kernel
theorem dX1_bestWatch_3 : decode cX1_bestWatch 3 = .ok (.istore 4, 2) := by decide +kernel
theorem dX1_bestWatch_5 : decode cX1_bestWatch 5 = .ok (.iconst 0, 1) := by decide +kernel
theorem dX1_bestWatch_6 : decode cX1_bestWatch 6 = .ok (.istore 5, 2) := by decide +kernel
theorem dX1_bestWatch_8 : decode cX1_bestWatch 8 = .ok (.iload 5, 2) := by decide +kernel
theorem dX1_bestWatch_10 : decode cX1_bestWatch 10 = .ok (.iload_n 2, 1) := by decide +kernel
theorem dX1_bestWatch_11 : decode cX1_bestWatch 11 = .ok (.if_icmp .ge 32, 3) := by decide +kernel
theorem dX1_bestWatch_14 : decode cX1_bestWatch 14 = .ok (.aload_n 0, 1) := by decide +kernel
theorem dX1_bestWatch_15 : decode cX1_bestWatch 15 = .ok (.iload 5, 2) := by decide +kernel
theorem dX1_bestWatch_17 : decode cX1_bestWatch 17 = .ok (.iload_n 1, 1) := by decide +kernel
theorem dX1_bestWatch_18 : decode cX1_bestWatch 18 = .ok (.invokevirtual 38, 3) := by decide +kernel
theorem dX1_bestWatch_21 : decode cX1_bestWatch 21 = .ok (.istore 6, 2) := by decide +kernel
theorem dX1_bestWatch_23 : decode cX1_bestWatch 23 = .ok (.iload 6, 2) := by decide +kernel
theorem dX1_bestWatch_25 : decode cX1_bestWatch 25 = .ok (.iload 4, 2) := by decide +kernel
theorem dX1_bestWatch_27 : decode cX1_bestWatch 27 = .ok (.if_icmp .ge 10, 3) := by decide +kernel
theorem dX1_bestWatch_30 : decode cX1_bestWatch 30 = .ok (.iload 6, 2) := by decide +kernel
theorem dX1_bestWatch_32 : decode cX1_bestWatch 32 = .ok (.istore 4, 2) := by decide +kernel
theorem dX1_bestWatch_34 : decode cX1_bestWatch 34 = .ok (.iload 5, 2) := by decide +kernel
theorem dX1_bestWatch_36 : decode cX1_bestWatch 36 = .ok (.istore_n 3, 1) := by decide +kernel
theorem dX1_bestWatch_37 : decode cX1_bestWatch 37 = .ok (.iinc 5 1, 3) := by decide +kernel
theorem dX1_bestWatch_40 : decode cX1_bestWatch 40 = .ok (.goto (-32), 3) := by decide +kernel
theorem dX1_bestWatch_43 : decode cX1_bestWatch 43 = .ok (.iload_n 3, 1) := by decide +kernel
theorem dX1_bestWatch_44 : decode cX1_bestWatch 44 = .ok (.ireturn, 1) := by decide +kernel
theorem dX1_greatestPart_0 : decode cX1_greatestPart 0 = .ok (.iconst 0, 1) := by decide +kernel
theorem dX1_greatestPart_1 : decode cX1_greatestPart 1 = .ok (.istore_n 3, 1) := by decide +kernel
theorem dX1_greatestPart_2 : decode cX1_greatestPart 2 = .ok (.iload_n 3, 1) := by decide +kernel
theorem dX1_greatestPart_3 : decode cX1_greatestPart 3 = .ok (.aload_n 0, 1) := by decide +kernel
theorem dX1_greatestPart_4 : decode cX1_greatestPart 4 = .ok (.getfield 25, 3) := by decide +kernel
theorem dX1_greatestPart_7 : decode cX1_greatestPart 7 = .ok (.arraylength, 1) := by decide +kernel
theorem dX1_greatestPart_8 : decode cX1_greatestPart 8 = .ok (.if_icmp .ge 16, 3) := by decide +kernel
theorem dX1_greatestPart_11 : decode cX1_greatestPart 11 = .ok (.aload_n 0, 1) := by decide +kernel
theorem dX1_greatestPart_12 : decode cX1_greatestPart 12 = .ok (.getfield 25, 3) := by decide +kernel
theorem dX1_greatestPart_15 : decode cX1_greatestPart 15 = .ok (.iload_n 3, 1) := by decide +kernel
theorem dX1_greatestPart_16 : decode cX1_greatestPart 16 = .ok (.iconst 0, 1) := by decide +kernel
theorem dX1_greatestPart_17 : decode cX1_greatestPart 17 = .ok (.iastore, 1) := by decide +kernel
theorem dX1_greatestPart_18 : decode cX1_greatestPart 18 = .ok (.iinc 3 1, 3) := by decide +kernel
theorem dX1_greatestPart_21 : decode cX1_greatestPart 21 = .ok (.goto (-19), 3) := by decide +kernel
theorem dX1_greatestPart_24 : decode cX1_greatestPart 24 = .ok (.iconst 0, 1) := by decide +kernel
theorem dX1_greatestPart_25 : decode cX1_greatestPart 25 = .ok (.istore_n 3, 1) := by decide +kernel
theorem dX1_greatestPart_26 : decode cX1_greatestPart 26 = .ok (.iconst 0, 1) := by decide +kernel
theorem dX1_greatestPart_27 : decode cX1_greatestPart 27 = .ok (.istore 4, 2) := by decide +kernel
theorem dX1_greatestPart_29 : decode cX1_greatestPart 29 = .ok (.iload 4, 2) := by decide +kernel
theorem dX1_greatestPart_31 : decode cX1_greatestPart 31 = .ok (.iload_n 2, 1) := by decide +kernel
theorem dX1_greatestPart_32 : decode cX1_greatestPart 32 = .ok (.if_icmp .ge 88, 3) := by decide +kernel
theorem dX1_greatestPart_35 : decode cX1_greatestPart 35 = .ok (.iload 4, 2) := by decide +kernel
theorem dX1_greatestPart_37 : decode cX1_greatestPart 37 = .ok (.aload_n 0, 1) := by decide +kernel
theorem dX1_greatestPart_38 : decode cX1_greatestPart 38 = .ok (.getfield 22, 3) := by decide +kernel
theorem dX1_greatestPart_41 : decode cX1_greatestPart 41 = .ok (.arraylength, 1) := by decide +kernel
theorem dX1_greatestPart_42 : decode cX1_greatestPart 42 = .ok (.if_icmp .ge 78, 3) := by decide +kernel
theorem dX1_greatestPart_45 : decode cX1_greatestPart 45 = .ok (.aload_n 0, 1) := by decide +kernel
theorem dX1_greatestPart_46 : decode cX1_greatestPart 46 = .ok (.getfield 22, 3) := by decide +kernel
theorem dX1_greatestPart_49 : decode cX1_greatestPart 49 = .ok (.iload 4, 2) := by decide +kernel
theorem dX1_greatestPart_51 : decode cX1_greatestPart 51 = .ok (.iaload, 1) := by decide +kernel
theorem dX1_greatestPart_52 : decode cX1_greatestPart 52 = .ok (.bipush 100, 2) := by decide +kernel
theorem dX1_greatestPart_54 : decode cX1_greatestPart 54 = .ok (.irem, 1) := by decide +kernel
theorem dX1_greatestPart_55 : decode cX1_greatestPart 55 = .ok (.iload_n 1, 1) := by decide +kernel
theorem dX1_greatestPart_56 : decode cX1_greatestPart 56 = .ok (.aload_n 0, 1) := by decide +kernel
theorem dX1_greatestPart_57 : decode cX1_greatestPart 57 = .ok (.getfield 22, 3) := by decide +kernel
theorem dX1_greatestPart_60 : decode cX1_greatestPart 60 = .ok (.iload 4, 2) := by decide +kernel
theorem dX1_greatestPart_62 : decode cX1_greatestPart 62 = .ok (.iaload, 1) := by decide +kernel
theorem dX1_greatestPart_63 : decode cX1_greatestPart 63 = .ok (.bipush 100, 2) := by decide +kernel
theorem dX1_greatestPart_65 : decode cX1_greatestPart 65 = .ok (.idiv, 1) := by decide +kernel
theorem dX1_greatestPart_66 : decode cX1_greatestPart 66 = .ok (.isub, 1) := by decide +kernel
theorem dX1_greatestPart_67 : decode cX1_greatestPart 67 = .ok (.invokestatic 32, 3) := by decide +kernel
theorem dX1_greatestPart_70 : decode cX1_greatestPart 70 = .ok (.isub, 1) := by decide +kernel
theorem dX1_greatestPart_71 : decode cX1_greatestPart 71 = .ok (.bipush 8, 2) := by decide +kernel
theorem dX1_greatestPart_73 : decode cX1_greatestPart 73 = .ok (.iadd, 1) := by decide +kernel
theorem dX1_greatestPart_74 : decode cX1_greatestPart 74 = .ok (.istore 5, 2) := by decide +kernel
theorem dX1_greatestPart_76 : decode cX1_greatestPart 76 = .ok (.iload 5, 2) := by decide +kernel
theorem dX1_greatestPart_78 : decode cX1_greatestPart 78 = .ok (.ifCond .lt 36, 3) := by decide +kernel
theorem dX1_greatestPart_81 : decode cX1_greatestPart 81 = .ok (.iload 5, 2) := by decide +kernel
theorem dX1_greatestPart_83 : decode cX1_greatestPart 83 = .ok (.aload_n 0, 1) := by decide +kernel
theorem dX1_greatestPart_84 : decode cX1_greatestPart 84 = .ok (.getfield 25, 3) := by decide +kernel
theorem dX1_greatestPart_87 : decode cX1_greatestPart 87 = .ok (.arraylength, 1) := by decide +kernel
theorem dX1_greatestPart_88 : decode cX1_greatestPart 88 = .ok (.if_icmp .ge 26, 3) := by decide +kernel
theorem dX1_greatestPart_91 : decode cX1_greatestPart 91 = .ok (.aload_n 0, 1) := by decide +kernel
theorem dX1_greatestPart_92 : decode cX1_greatestPart 92 = .ok (.getfield 25, 3) := by decide +kernel
theorem dX1_greatestPart_95 : decode cX1_greatestPart 95 = .ok (.iload 5, 2) := by decide +kernel
theorem dX1_greatestPart_97 : decode cX1_greatestPart 97 = .ok (.dup2, 1) := by decide +kernel
theorem dX1_greatestPart_98 : decode cX1_greatestPart 98 = .ok (.iaload, 1) := by decide +kernel
theorem dX1_greatestPart_99 : decode cX1_greatestPart 99 = .ok (.iconst 1, 1) := by decide +kernel
theorem dX1_greatestPart_100 : decode cX1_greatestPart 100 = .ok (.iadd, 1) := by decide +kernel
theorem dX1_greatestPart_101 : decode cX1_greatestPart 101 = .ok (.iastore, 1) := by decide +kernel
theorem dX1_greatestPart_102 : decode cX1_greatestPart 102 = .ok (.iload_n 3, 1) := by decide +kernel
theorem dX1_greatestPart_103 : decode cX1_greatestPart 103 = .ok (.aload_n 0, 1) := by decide +kernel
theorem dX1_greatestPart_104 : decode cX1_greatestPart 104 = .ok (.getfield 25, 3) := by decide +kernel
theorem dX1_greatestPart_107 : decode cX1_greatestPart 107 = .ok (.iload 5, 2) := by decide +kernel
theorem dX1_greatestPart_109 : decode cX1_greatestPart 109 = .ok (.iaload, 1) := by decide +kernel
theorem dX1_greatestPart_110 : decode cX1_greatestPart 110 = .ok (.invokestatic 42, 3) := by decide +kernel
theorem dX1_greatestPart_113 : decode cX1_greatestPart 113 = .ok (.istore_n 3, 1) := by decide +kernel
theorem dX1_greatestPart_114 : decode cX1_greatestPart 114 = .ok (.iinc 4 1, 3) := by decide +kernel
theorem dX1_greatestPart_117 : decode cX1_greatestPart 117 = .ok (.goto (-88), 3) := by decide +kernel
theorem dX1_greatestPart_120 : decode cX1_greatestPart 120 = .ok (.iload_n 3, 1) := by decide +kernel
theorem dX1_greatestPart_121 : decode cX1_greatestPart 121 = .ok (.ireturn, 1) := by decide +kernel
theorem dX2_init_0 : decode cX2_init 0 = .ok (.aload_n 0, 1) := by decide +kernel
theorem dX2_init_1 : decode cX2_init 1 = .ok (.invokespecial 3, 3) := by decide +kernel
theorem dX2_init_4 : decode cX2_init 4 = .ok (.aload_n 0, 1) := by decide +kernel
theorem dX2_init_5 : decode cX2_init 5 = .ok (.bipush 8, 2) := by decide +kernel
theorem dX2_init_7 : decode cX2_init 7 = .ok (.newarray .int, 2) := by decide +kernel
theorem dX2_init_9 : decode cX2_init 9 = .ok (.putfield 9, 3) := by decide +kernel
theorem dX2_init_12 : decode cX2_init 12 = .ok (.aload_n 0, 1) := by decide +kernel
theorem dX2_init_13 : decode cX2_init 13 = .ok (.bipush 8, 2) := by decide +kernel
theorem dX2_init_15 : decode cX2_init 15 = .ok (.newarray .int, 2) := by decide +kernel
theorem dX2_init_17 : decode cX2_init 17 = .ok (.putfield 15, 3) := by decide +kernel
theorem dX2_init_20 : decode cX2_init 20 = .ok (.aload_n 0, 1) := by decide +kernel
theorem dX2_init_21 : decode cX2_init 21 = .ok (.bipush 8, 2) := by decide +kernel
theorem dX2_init_23 : decode cX2_init 23 = .ok (.newarray .int, 2) := by decide +kernel
theorem dX2_init_25 : decode cX2_init 25 = .ok (.putfield 18, 3) := by decide +kernel
theorem dX2_init_28 : decode cX2_init 28 = .ok (.aload_n 0, 1) := by decide +kernel
theorem dX2_init_29 : decode cX2_init 29 = .ok (.bipush 8, 2) := by decide +kernel
theorem dX2_init_31 : decode cX2_init 31 = .ok (.newarray .int, 2) := by decide +kernel
theorem dX2_init_33 : decode cX2_init 33 = .ok (.putfield 21, 3) := by decide +kernel
theorem dX2_init_36 : decode cX2_init 36 = .ok (.aload_n 0, 1) := by decide +kernel
theorem dX2_init_37 : decode cX2_init 37 = .ok (.bipush 21, 2) := by decide +kernel
theorem dX2_init_39 : decode cX2_init 39 = .ok (.newarray .long, 2) := by decide +kernel
theorem dX2_init_41 : decode cX2_init 41 = .ok (.putfield 24, 3) := by decide +kernel
theorem dX2_init_44 : decode cX2_init 44 = .ok (.aload_n 0, 1) := by decide +kernel
theorem dX2_init_45 : decode cX2_init 45 = .ok (.iconst 0, 1) := by decide +kernel
theorem dX2_init_46 : decode cX2_init 46 = .ok (.putfield 28, 3) := by decide +kernel
theorem dX2_init_49 : decode cX2_init 49 = .ok (.aload_n 0, 1) := by decide +kernel
theorem dX2_init_50 : decode cX2_init 50 = .ok (.iconst 1, 1) := by decide +kernel
theorem dX2_init_51 : decode cX2_init 51 = .ok (.putfield 32, 3) := by decide +kernel
theorem dX2_init_54 : decode cX2_init 54 = .ok (.return_, 1) := by decide +kernel
theorem dX2_clear_0 : decode cX2_clear 0 = .ok (.aload_n 0, 1) := by decide +kernel
theorem dX2_clear_1 : decode cX2_clear 1 = .ok (.iconst 0, 1) := by decide +kernel
theorem dX2_clear_2 : decode cX2_clear 2 = .ok (.putfield 28, 3) := by decide +kernel
theorem dX2_clear_5 : decode cX2_clear 5 = .ok (.aload_n 0, 1) := by decide +kernel
theorem dX2_clear_6 : decode cX2_clear 6 = .ok (.iconst 1, 1) := by decide +kernel
theorem dX2_clear_7 : decode cX2_clear 7 = .ok (.putfield 32, 3) := by decide +kernel
theorem dX2_clear_10 : decode cX2_clear 10 = .ok (.return_, 1) := by decide +kernel
theorem dX2_has_0 : decode cX2_has 0 = .ok (.iload_n 1, 1) := by decide +kernel
theorem dX2_has_1 : decode cX2_has 1 = .ok (.ifCond .lt 15, 3) := by decide +kernel
theorem dX2_has_4 : decode cX2_has 4 = .ok (.iload_n 1, 1) := by decide +kernel
theorem dX2_has_5 : decode cX2_has 5 = .ok (.aload_n 0, 1) := by decide +kernel
theorem dX2_has_6 : decode cX2_has 6 = .ok (.getfield 28, 3) := by decide +kernel
theorem dX2_has_9 : decode cX2_has 9 = .ok (.if_icmp .ge 7, 3) := by decide +kernel
theorem dX2_has_12 : decode cX2_has 12 = .ok (.iconst 1, 1) := by decide +kernel
theorem dX2_has_13 : decode cX2_has 13 = .ok (.goto 4, 3) := by decide +kernel
theorem dX2_has_16 : decode cX2_has 16 = .ok (.iconst 0, 1) := by decide +kernel
theorem dX2_has_17 : decode cX2_has 17 = .ok (.ireturn, 1) := by decide +kernel
theorem dX2_hasGap_0 : decode cX2_hasGap 0 = .ok (.iload_n 1, 1) := by decide +kernel
theorem dX2_hasGap_1 : decode cX2_hasGap 1 = .ok (.ifCond .lt 17, 3) := by decide +kernel
theorem dX2_hasGap_4 : decode cX2_hasGap 4 = .ok (.iload_n 1, 1) := by decide +kernel
theorem dX2_hasGap_5 : decode cX2_hasGap 5 = .ok (.aload_n 0, 1) := by decide +kernel
theorem dX2_hasGap_6 : decode cX2_hasGap 6 = .ok (.getfield 28, 3) := by decide +kernel
theorem dX2_hasGap_9 : decode cX2_hasGap 9 = .ok (.iconst 1, 1) := by decide +kernel
theorem dX2_hasGap_10 : decode cX2_hasGap 10 = .ok (.isub, 1) := by decide +kernel
theorem dX2_hasGap_11 : decode cX2_hasGap 11 = .ok (.if_icmp .ge 7, 3) := by decide +kernel
theorem dX2_hasGap_14 : decode cX2_hasGap 14 = .ok (.iconst 1, 1) := by decide +kernel
theorem dX2_hasGap_15 : decode cX2_hasGap 15 = .ok (.goto 4, 3) := by decide +kernel
theorem dX2_hasGap_18 : decode cX2_hasGap 18 = .ok (.iconst 0, 1) := by decide +kernel
theorem dX2_hasGap_19 : decode cX2_hasGap 19 = .ok (.ireturn, 1) := by decide +kernel
theorem dX2_add_0 : decode cX2_add 0 = .ok (.aload_n 0, 1) := by decide +kernel
theorem dX2_add_1 : decode cX2_add 1 = .ok (.getfield 28, 3) := by decide +kernel
theorem dX2_add_4 : decode cX2_add 4 = .ok (.bipush 8, 2) := by decide +kernel
theorem dX2_add_6 : decode cX2_add 6 = .ok (.if_icmp .lt 4, 3) := by decide +kernel
theorem dX2_add_9 : decode cX2_add 9 = .ok (.return_, 1) := by decide +kernel
theorem dX2_add_10 : decode cX2_add 10 = .ok (.aload_n 0, 1) := by decide +kernel
theorem dX2_add_11 : decode cX2_add 11 = .ok (.getfield 9, 3) := by decide +kernel
theorem dX2_add_14 : decode cX2_add 14 = .ok (.aload_n 0, 1) := by decide +kernel
theorem dX2_add_15 : decode cX2_add 15 = .ok (.getfield 28, 3) := by decide +kernel
theorem dX2_add_18 : decode cX2_add 18 = .ok (.iload_n 1, 1) := by decide +kernel
theorem dX2_add_19 : decode cX2_add 19 = .ok (.iastore, 1) := by decide +kernel
theorem dX2_add_20 : decode cX2_add 20 = .ok (.aload_n 0, 1) := by decide +kernel
theorem dX2_add_21 : decode cX2_add 21 = .ok (.getfield 15, 3) := by decide +kernel
theorem dX2_add_24 : decode cX2_add 24 = .ok (.aload_n 0, 1) := by decide +kernel
theorem dX2_add_25 : decode cX2_add 25 = .ok (.getfield 28, 3) := by decide +kernel
theorem dX2_add_28 : decode cX2_add 28 = .ok (.iload_n 2, 1) := by decide +kernel
theorem dX2_add_29 : decode cX2_add 29 = .ok (.iastore, 1) := by decide +kernel
theorem dX2_add_30 : decode cX2_add 30 = .ok (.aload_n 0, 1) := by decide +kernel
theorem dX2_add_31 : decode cX2_add 31 = .ok (.getfield 18, 3) := by decide +kernel
theorem dX2_add_34 : decode cX2_add 34 = .ok (.aload_n 0, 1) := by decide +kernel
theorem dX2_add_35 : decode cX2_add 35 = .ok (.getfield 28, 3) := by decide +kernel
theorem dX2_add_38 : decode cX2_add 38 = .ok (.iload_n 3, 1) := by decide +kernel
theorem dX2_add_39 : decode cX2_add 39 = .ok (.iastore, 1) := by decide +kernel
theorem dX2_add_40 : decode cX2_add 40 = .ok (.aload_n 0, 1) := by decide +kernel
theorem dX2_add_41 : decode cX2_add 41 = .ok (.getfield 21, 3) := by decide +kernel
theorem dX2_add_44 : decode cX2_add 44 = .ok (.aload_n 0, 1) := by decide +kernel
theorem dX2_add_45 : decode cX2_add 45 = .ok (.getfield 28, 3) := by decide +kernel
theorem dX2_add_48 : decode cX2_add 48 = .ok (.iload 4, 2) := by decide +kernel
theorem dX2_add_50 : decode cX2_add 50 = .ok (.iastore, 1) := by decide +kernel
theorem dX2_add_51 : decode cX2_add 51 = .ok (.aload_n 0, 1) := by decide +kernel
theorem dX2_add_52 : decode cX2_add 52 = .ok (.dup, 1) := by decide +kernel
theorem dX2_add_53 : decode cX2_add 53 = .ok (.getfield 28, 3) := by decide +kernel
theorem dX2_add_56 : decode cX2_add 56 = .ok (.iconst 1, 1) := by decide +kernel
theorem dX2_add_57 : decode cX2_add 57 = .ok (.iadd, 1) := by decide +kernel
theorem dX2_add_58 : decode cX2_add 58 = .ok (.putfield 28, 3) := by decide +kernel
theorem dX2_add_61 : decode cX2_add 61 = .ok (.aload_n 0, 1) := by decide +kernel
theorem dX2_add_62 : decode cX2_add 62 = .ok (.aload_n 0, 1) := by decide +kernel
theorem dX2_add_63 : decode cX2_add 63 = .ok (.getfield 32, 3) := by decide +kernel
theorem dX2_add_66 : decode cX2_add 66 = .ok (.iload_n 2, 1) := by decide +kernel
theorem dX2_add_67 : decode cX2_add 67 = .ok (.invokestatic 35, 3) := by decide +kernel
theorem dX2_add_70 : decode cX2_add 70 = .ok (.putfield 32, 3) := by decide +kernel
theorem dX2_add_73 : decode cX2_add 73 = .ok (.return_, 1) := by decide +kernel
theorem dX2_heightAt_0 : decode cX2_heightAt 0 = .ok (.aload_n 0, 1) := by decide +kernel
theorem dX2_heightAt_1 : decode cX2_heightAt 1 = .ok (.iload_n 1, 1) := by decide +kernel
theorem dX2_heightAt_2 : decode cX2_heightAt 2 = .ok (.invokevirtual 39, 3) := by decide +kernel
theorem dX2_heightAt_5 : decode cX2_heightAt 5 = .ok (.ifCond .eq 37, 3) := by decide +kernel
theorem dX2_heightAt_8 : decode cX2_heightAt 8 = .ok (.aload_n 0, 1) := by decide +kernel
theorem dX2_heightAt_9 : decode cX2_heightAt 9 = .ok (.getfield 9, 3) := by decide +kernel
theorem dX2_heightAt_12 : decode cX2_heightAt 12 = .ok (.iload_n 1, 1) := by decide +kernel
theorem dX2_heightAt_13 : decode cX2_heightAt 13 = .ok (.iaload, 1) := by decide +kernel
theorem dX2_heightAt_14 : decode cX2_heightAt 14 = .ok (.aload_n 0, 1) := by decide +kernel
theorem dX2_heightAt_15 : decode cX2_heightAt 15 = .ok (.getfield 21, 3) := by decide +kernel
theorem dX2_heightAt_18 : decode cX2_heightAt 18 = .ok (.iload_n 1, 1) := by decide +kernel
theorem dX2_heightAt_19 : decode cX2_heightAt 19 = .ok (.iaload, 1) := by decide +kernel
theorem dX2_heightAt_20 : decode cX2_heightAt 20 = .ok (.iload_n 2, 1) := by decide +kernel
theorem dX2_heightAt_21 : decode cX2_heightAt 21 = .ok (.aload_n 0, 1) := by decide +kernel
theorem dX2_heightAt_22 : decode cX2_heightAt 22 = .ok (.getfield 18, 3) := by decide +kernel
theorem dX2_heightAt_25 : decode cX2_heightAt 25 = .ok (.iload_n 1, 1) := by decide +kernel
theorem dX2_heightAt_26 : decode cX2_heightAt 26 = .ok (.iaload, 1) := by decide +kernel
theorem dX2_heightAt_27 : decode cX2_heightAt 27 = .ok (.iadd, 1) := by decide +kernel
theorem dX2_heightAt_28 : decode cX2_heightAt 28 = .ok (.aload_n 0, 1) := by decide +kernel
theorem dX2_heightAt_29 : decode cX2_heightAt 29 = .ok (.getfield 15, 3) := by decide +kernel
theorem dX2_heightAt_32 : decode cX2_heightAt 32 = .ok (.iload_n 1, 1) := by decide +kernel
theorem dX2_heightAt_33 : decode cX2_heightAt 33 = .ok (.iaload, 1) := by decide +kernel
theorem dX2_heightAt_34 : decode cX2_heightAt 34 = .ok (.invokestatic 43, 3) := by decide +kernel
theorem dX2_heightAt_37 : decode cX2_heightAt 37 = .ok (.imul, 1) := by decide +kernel
theorem dX2_heightAt_38 : decode cX2_heightAt 38 = .ok (.iadd, 1) := by decide +kernel
theorem dX2_heightAt_39 : decode cX2_heightAt 39 = .ok (.goto 4, 3) := by decide +kernel
theorem dX2_heightAt_42 : decode cX2_heightAt 42 = .ok (.iconst 0, 1) := by decide +kernel
theorem dX2_heightAt_43 : decode cX2_heightAt 43 = .ok (.ireturn, 1) := by decide +kernel
theorem dX2_leanAt_0 : decode cX2_leanAt 0 = .ok (.aload_n 0, 1) := by decide +kernel
theorem dX2_leanAt_1 : decode cX2_leanAt 1 = .ok (.iload_n 1, 1) := by decide +kernel
theorem dX2_leanAt_2 : decode cX2_leanAt 2 = .ok (.invokevirtual 46, 3) := by decide +kernel
theorem dX2_leanAt_5 : decode cX2_leanAt 5 = .ok (.ifCond .eq 21, 3) := by decide +kernel
theorem dX2_leanAt_8 : decode cX2_leanAt 8 = .ok (.aload_n 0, 1) := by decide +kernel
theorem dX2_leanAt_9 : decode cX2_leanAt 9 = .ok (.iload_n 1, 1) := by decide +kernel
theorem dX2_leanAt_10 : decode cX2_leanAt 10 = .ok (.iconst 1, 1) := by decide +kernel
theorem dX2_leanAt_11 : decode cX2_leanAt 11 = .ok (.iadd, 1) := by decide +kernel
theorem dX2_leanAt_12 : decode cX2_leanAt 12 = .ok (.iload_n 2, 1) := by decide +kernel
theorem dX2_leanAt_13 : decode cX2_leanAt 13 = .ok (.invokevirtual 49, 3) := by decide +kernel
theorem dX2_leanAt_16 : decode cX2_leanAt 16 = .ok (.aload_n 0, 1) := by decide +kernel
theorem dX2_leanAt_17 : decode cX2_leanAt 17 = .ok (.iload_n 1, 1) := by decide +kernel
theorem dX2_leanAt_18 : decode cX2_leanAt 18 = .ok (.iload_n 2, 1) := by decide +kernel
theorem dX2_leanAt_19 : decode cX2_leanAt 19 = .ok (.invokevirtual 49, 3) := by decide +kernel
theorem dX2_leanAt_22 : decode cX2_leanAt 22 = .ok (.isub, 1) := by decide +kernel
theorem dX2_leanAt_23 : decode cX2_leanAt 23 = .ok (.goto 4, 3) := by decide +kernel
theorem dX2_leanAt_26 : decode cX2_leanAt 26 = .ok (.iconst 0, 1) := by decide +kernel
theorem dX2_leanAt_27 : decode cX2_leanAt 27 = .ok (.ireturn, 1) := by decide +kernel
theorem dX2_climb_0 : decode cX2_climb 0 = .ok (.iconst 0, 1) := by decide +kernel
theorem dX2_climb_1 : decode cX2_climb 1 = .ok (.aload_n 0, 1) := by decide +kernel
theorem dX2_climb_2 : decode cX2_climb 2 = .ok (.iload_n 2, 1) := by decide +kernel
theorem dX2_climb_3 : decode cX2_climb 3 = .ok (.iload_n 3, 1) := by decide +kernel
theorem dX2_climb_4 : decode cX2_climb 4 = .ok (.invokevirtual 49, 3) := by decide +kernel
theorem dX2_climb_7 : decode cX2_climb 7 = .ok (.aload_n 0, 1) := by decide +kernel
theorem dX2_climb_8 : decode cX2_climb 8 = .ok (.iload_n 1, 1) := by decide +kernel
theorem dX2_climb_9 : decode cX2_climb 9 = .ok (.iload_n 3, 1) := by decide +kernel
theorem dX2_climb_10 : decode cX2_climb 10 = .ok (.invokevirtual 49, 3) := by decide +kernel
theorem dX2_climb_13 : decode cX2_climb 13 = .ok (.isub, 1) := by decide +kernel
theorem dX2_climb_14 : decode cX2_climb 14 = .ok (.invokestatic 52, 3) := by decide +kernel
theorem dX2_climb_17 : decode cX2_climb 17 = .ok (.ireturn, 1) := by decide +kernel
theorem dX2_leanRound_0 : decode cX2_leanRound 0 = .ok (.aload_n 0, 1) := by decide +kernel
theorem dX2_leanRound_1 : decode cX2_leanRound 1 = .ok (.iload_n 1, 1) := by decide +kernel
theorem dX2_leanRound_2 : decode cX2_leanRound 2 = .ok (.invokevirtual 46, 3) := by decide +kernel
theorem dX2_leanRound_5 : decode cX2_leanRound 5 = .ok (.ifCond .eq 23, 3) := by decide +kernel
theorem dX2_leanRound_8 : decode cX2_leanRound 8 = .ok (.aload_n 0, 1) := by decide +kernel
theorem dX2_leanRound_9 : decode cX2_leanRound 9 = .ok (.getfield 15, 3) := by decide +kernel
theorem dX2_leanRound_12 : decode cX2_leanRound 12 = .ok (.iload_n 1, 1) := by decide +kernel
theorem dX2_leanRound_13 : decode cX2_leanRound 13 = .ok (.iaload, 1) := by decide +kernel
theorem dX2_leanRound_14 : decode cX2_leanRound 14 = .ok (.aload_n 0, 1) := by decide +kernel
theorem dX2_leanRound_15 : decode cX2_leanRound 15 = .ok (.getfield 15, 3) := by decide +kernel
theorem dX2_leanRound_18 : decode cX2_leanRound 18 = .ok (.iload_n 1, 1) := by decide +kernel
theorem dX2_leanRound_19 : decode cX2_leanRound 19 = .ok (.iconst 1, 1) := by decide +kernel
theorem dX2_leanRound_20 : decode cX2_leanRound 20 = .ok (.iadd, 1) := by decide +kernel
theorem dX2_leanRound_21 : decode cX2_leanRound 21 = .ok (.iaload, 1) := by decide +kernel
theorem dX2_leanRound_22 : decode cX2_leanRound 22 = .ok (.invokestatic 35, 3) := by decide +kernel
theorem dX2_leanRound_25 : decode cX2_leanRound 25 = .ok (.goto 4, 3) := by decide +kernel
theorem dX2_leanRound_28 : decode cX2_leanRound 28 = .ok (.iconst 1, 1) := by decide +kernel
theorem dX2_leanRound_29 : decode cX2_leanRound 29 = .ok (.ireturn, 1) := by decide +kernel
theorem dX2_flownTo_0 : decode cX2_flownTo 0 = .ok (.iload_n 1, 1) := by decide +kernel
theorem dX2_flownTo_1 : decode cX2_flownTo 1 = .ok (.istore 4, 2) := by decide +kernel
theorem dX2_flownTo_3 : decode cX2_flownTo 3 = .ok (.iconst 1, 1) := by decide +kernel
theorem dX2_flownTo_4 : decode cX2_flownTo 4 = .ok (.istore 5, 2) := by decide +kernel
theorem dX2_flownTo_6 : decode cX2_flownTo 6 = .ok (.iload 5, 2) := by decide +kernel
theorem dX2_flownTo_8 : decode cX2_flownTo 8 = .ok (.iload_n 3, 1) := by decide +kernel
theorem dX2_flownTo_9 : decode cX2_flownTo 9 = .ok (.if_icmp .gt 21, 3) := by decide +kernel
theorem dX2_flownTo_12 : decode cX2_flownTo 12 = .ok (.aload_n 0, 1) := by decide +kernel
theorem dX2_flownTo_13 : decode cX2_flownTo 13 = .ok (.iload 4, 2) := by decide +kernel
theorem dX2_flownTo_15 : decode cX2_flownTo 15 = .ok (.iload_n 2, 1) := by decide +kernel
theorem dX2_flownTo_16 : decode cX2_flownTo 16 = .ok (.iload 5, 2) := by decide +kernel
theorem dX2_flownTo_18 : decode cX2_flownTo 18 = .ok (.iadd, 1) := by decide +kernel
theorem dX2_flownTo_19 : decode cX2_flownTo 19 = .ok (.invokevirtual 57, 3) := by decide +kernel
theorem dX2_flownTo_22 : decode cX2_flownTo 22 = .ok (.istore 4, 2) := by decide +kernel
theorem dX2_flownTo_24 : decode cX2_flownTo 24 = .ok (.iinc 5 1, 3) := by decide +kernel
theorem dX2_flownTo_27 : decode cX2_flownTo 27 = .ok (.goto (-21), 3) := by decide +kernel
theorem dX2_flownTo_30 : decode cX2_flownTo 30 = .ok (.iload 4, 2) := by decide +kernel
theorem dX2_flownTo_32 : decode cX2_flownTo 32 = .ok (.ireturn, 1) := by decide +kernel
theorem dX2_lowerBeside_0 : decode cX2_lowerBeside 0 = .ok (.iload_n 1, 1) := by decide +kernel
theorem dX2_lowerBeside_1 : decode cX2_lowerBeside 1 = .ok (.istore_n 3, 1) := by decide +kernel
theorem dX2_lowerBeside_2 : decode cX2_lowerBeside 2 = .ok (.aload_n 0, 1) := by decide +kernel
theorem dX2_lowerBeside_3 : decode cX2_lowerBeside 3 = .ok (.iload_n 1, 1) := by decide +kernel
theorem dX2_lowerBeside_4 : decode cX2_lowerBeside 4 = .ok (.iconst 1, 1) := by decide +kernel
theorem dX2_lowerBeside_5 : decode cX2_lowerBeside 5 = .ok (.isub, 1) := by decide +kernel
theorem dX2_lowerBeside_6 : decode cX2_lowerBeside 6 = .ok (.invokevirtual 39, 3) := by decide +kernel
theorem dX2_lowerBeside_9 : decode cX2_lowerBeside 9 = .ok (.ifCond .eq 24, 3) := by decide +kernel
theorem dX2_lowerBeside_12 : decode cX2_lowerBeside 12 = .ok (.aload_n 0, 1) := by decide +kernel
theorem dX2_lowerBeside_13 : decode cX2_lowerBeside 13 = .ok (.iload_n 1, 1) := by decide +kernel
theorem dX2_lowerBeside_14 : decode cX2_lowerBeside 14 = .ok (.iconst 1, 1) := by decide +kernel
theorem dX2_lowerBeside_15 : decode cX2_lowerBeside 15 = .ok (.isub, 1) := by decide +kernel
theorem dX2_lowerBeside_16 : decode cX2_lowerBeside 16 = .ok (.iload_n 2, 1) := by decide +kernel
theorem dX2_lowerBeside_17 : decode cX2_lowerBeside 17 = .ok (.invokevirtual 49, 3) := by decide +kernel
theorem dX2_lowerBeside_20 : decode cX2_lowerBeside 20 = .ok (.aload_n 0, 1) := by decide +kernel
theorem dX2_lowerBeside_21 : decode cX2_lowerBeside 21 = .ok (.iload_n 3, 1) := by decide +kernel
theorem dX2_lowerBeside_22 : decode cX2_lowerBeside 22 = .ok (.iload_n 2, 1) := by decide +kernel
theorem dX2_lowerBeside_23 : decode cX2_lowerBeside 23 = .ok (.invokevirtual 49, 3) := by decide +kernel
theorem dX2_lowerBeside_26 : decode cX2_lowerBeside 26 = .ok (.if_icmp .ge 7, 3) := by decide +kernel
theorem dX2_lowerBeside_29 : decode cX2_lowerBeside 29 = .ok (.iload_n 1, 1) := by decide +kernel
theorem dX2_lowerBeside_30 : decode cX2_lowerBeside 30 = .ok (.iconst 1, 1) := by decide +kernel
theorem dX2_lowerBeside_31 : decode cX2_lowerBeside 31 = .ok (.isub, 1) := by decide +kernel
theorem dX2_lowerBeside_32 : decode cX2_lowerBeside 32 = .ok (.istore_n 3, 1) := by decide +kernel
theorem dX2_lowerBeside_33 : decode cX2_lowerBeside 33 = .ok (.aload_n 0, 1) := by decide +kernel
theorem dX2_lowerBeside_34 : decode cX2_lowerBeside 34 = .ok (.iload_n 1, 1) := by decide +kernel
theorem dX2_lowerBeside_35 : decode cX2_lowerBeside 35 = .ok (.iconst 1, 1) := by decide +kernel
theorem dX2_lowerBeside_36 : decode cX2_lowerBeside 36 = .ok (.iadd, 1) := by decide +kernel
theorem dX2_lowerBeside_37 : decode cX2_lowerBeside 37 = .ok (.invokevirtual 39, 3) := by decide +kernel
theorem dX2_lowerBeside_40 : decode cX2_lowerBeside 40 = .ok (.ifCond .eq 24, 3) := by decide +kernel
theorem dX2_lowerBeside_43 : decode cX2_lowerBeside 43 = .ok (.aload_n 0, 1) := by decide +kernel
theorem dX2_lowerBeside_44 : decode cX2_lowerBeside 44 = .ok (.iload_n 1, 1) := by decide +kernel
theorem dX2_lowerBeside_45 : decode cX2_lowerBeside 45 = .ok (.iconst 1, 1) := by decide +kernel
theorem dX2_lowerBeside_46 : decode cX2_lowerBeside 46 = .ok (.iadd, 1) := by decide +kernel
theorem dX2_lowerBeside_47 : decode cX2_lowerBeside 47 = .ok (.iload_n 2, 1) := by decide +kernel
theorem dX2_lowerBeside_48 : decode cX2_lowerBeside 48 = .ok (.invokevirtual 49, 3) := by decide +kernel
theorem dX2_lowerBeside_51 : decode cX2_lowerBeside 51 = .ok (.aload_n 0, 1) := by decide +kernel
theorem dX2_lowerBeside_52 : decode cX2_lowerBeside 52 = .ok (.iload_n 3, 1) := by decide +kernel
theorem dX2_lowerBeside_53 : decode cX2_lowerBeside 53 = .ok (.iload_n 2, 1) := by decide +kernel
theorem dX2_lowerBeside_54 : decode cX2_lowerBeside 54 = .ok (.invokevirtual 49, 3) := by decide +kernel
theorem dX2_lowerBeside_57 : decode cX2_lowerBeside 57 = .ok (.if_icmp .ge 7, 3) := by decide +kernel
theorem dX2_lowerBeside_60 : decode cX2_lowerBeside 60 = .ok (.iload_n 1, 1) := by decide +kernel
theorem dX2_lowerBeside_61 : decode cX2_lowerBeside 61 = .ok (.iconst 1, 1) := by decide +kernel
theorem dX2_lowerBeside_62 : decode cX2_lowerBeside 62 = .ok (.iadd, 1) := by decide +kernel
theorem dX2_lowerBeside_63 : decode cX2_lowerBeside 63 = .ok (.istore_n 3, 1) := by decide +kernel
theorem dX2_lowerBeside_64 : decode cX2_lowerBeside 64 = .ok (.iload_n 3, 1) := by decide +kernel
theorem dX2_lowerBeside_65 : decode cX2_lowerBeside 65 = .ok (.ireturn, 1) := by decide +kernel
theorem dX2_milled_0 : decode cX2_milled 0 = .ok (.aload_n 0, 1) := by decide +kernel
theorem dX2_milled_1 : decode cX2_milled 1 = .ok (.iload_n 1, 1) := by decide +kernel
theorem dX2_milled_2 : decode cX2_milled 2 = .ok (.invokevirtual 60, 3) := by decide +kernel
theorem dX2_milled_5 : decode cX2_milled 5 = .ok (.istore_n 3, 1) := by decide +kernel
theorem dX2_milled_6 : decode cX2_milled 6 = .ok (.iconst 0, 1) := by decide +kernel
theorem dX2_milled_7 : decode cX2_milled 7 = .ok (.istore 4, 2) := by decide +kernel
theorem dX2_milled_9 : decode cX2_milled 9 = .ok (.iconst 0, 1) := by decide +kernel
theorem dX2_milled_10 : decode cX2_milled 10 = .ok (.istore 5, 2) := by decide +kernel
theorem dX2_milled_12 : decode cX2_milled 12 = .ok (.iload 5, 2) := by decide +kernel
theorem dX2_milled_14 : decode cX2_milled 14 = .ok (.iload_n 3, 1) := by decide +kernel
theorem dX2_milled_15 : decode cX2_milled 15 = .ok (.if_icmp .ge 56, 3) := by decide +kernel
theorem dX2_milled_18 : decode cX2_milled 18 = .ok (.aload_n 0, 1) := by decide +kernel
theorem dX2_milled_19 : decode cX2_milled 19 = .ok (.iload_n 1, 1) := by decide +kernel
theorem dX2_milled_20 : decode cX2_milled 20 = .ok (.iload 5, 2) := by decide +kernel
theorem dX2_milled_22 : decode cX2_milled 22 = .ok (.invokevirtual 64, 3) := by decide +kernel
theorem dX2_milled_25 : decode cX2_milled 25 = .ok (.istore 6, 2) := by decide +kernel
theorem dX2_milled_27 : decode cX2_milled 27 = .ok (.iload_n 2, 1) := by decide +kernel
theorem dX2_milled_28 : decode cX2_milled 28 = .ok (.iconst 2, 1) := by decide +kernel
theorem dX2_milled_29 : decode cX2_milled 29 = .ok (.if_icmp .ne 16, 3) := by decide +kernel
theorem dX2_milled_32 : decode cX2_milled 32 = .ok (.iload 4, 2) := by decide +kernel
theorem dX2_milled_34 : decode cX2_milled 34 = .ok (.iload 6, 2) := by decide +kernel
theorem dX2_milled_36 : decode cX2_milled 36 = .ok (.invokestatic 67, 3) := by decide +kernel
theorem dX2_milled_39 : decode cX2_milled 39 = .ok (.iadd, 1) := by decide +kernel
theorem dX2_milled_40 : decode cX2_milled 40 = .ok (.istore 4, 2) := by decide +kernel
theorem dX2_milled_42 : decode cX2_milled 42 = .ok (.goto 23, 3) := by decide +kernel
theorem dX2_milled_45 : decode cX2_milled 45 = .ok (.iload_n 2, 1) := by decide +kernel
theorem dX2_milled_46 : decode cX2_milled 46 = .ok (.ifCond .ne 11, 3) := by decide +kernel
theorem dX2_milled_49 : decode cX2_milled 49 = .ok (.iload 6, 2) := by decide +kernel
theorem dX2_milled_51 : decode cX2_milled 51 = .ok (.ifCond .ge 14, 3) := by decide +kernel
theorem dX2_milled_54 : decode cX2_milled 54 = .ok (.goto 8, 3) := by decide +kernel
theorem dX2_milled_57 : decode cX2_milled 57 = .ok (.iload 6, 2) := by decide +kernel
theorem dX2_milled_59 : decode cX2_milled 59 = .ok (.ifCond .le 6, 3) := by decide +kernel
theorem dX2_milled_62 : decode cX2_milled 62 = .ok (.iinc 4 1, 3) := by decide +kernel
theorem dX2_milled_65 : decode cX2_milled 65 = .ok (.iinc 5 1, 3) := by decide +kernel
theorem dX2_milled_68 : decode cX2_milled 68 = .ok (.goto (-56), 3) := by decide +kernel
theorem dX2_milled_71 : decode cX2_milled 71 = .ok (.iload_n 3, 1) := by decide +kernel
theorem dX2_milled_72 : decode cX2_milled 72 = .ok (.iconst 1, 1) := by decide +kernel
theorem dX2_milled_73 : decode cX2_milled 73 = .ok (.if_icmp .ge 7, 3) := by decide +kernel
theorem dX2_milled_76 : decode cX2_milled 76 = .ok (.iconst 0, 1) := by decide +kernel
theorem dX2_milled_77 : decode cX2_milled 77 = .ok (.goto 12, 3) := by decide +kernel
theorem dX2_milled_80 : decode cX2_milled 80 = .ok (.iload 4, 2) := by decide +kernel
theorem dX2_milled_82 : decode cX2_milled 82 = .ok (.aload_n 0, 1) := by decide +kernel
theorem dX2_milled_83 : decode cX2_milled 83 = .ok (.getfield 32, 3) := by decide +kernel
theorem dX2_milled_86 : decode cX2_milled 86 = .ok (.iload_n 3, 1) := by decide +kernel
theorem dX2_milled_87 : decode cX2_milled 87 = .ok (.idiv, 1) := by decide +kernel
theorem dX2_milled_88 : decode cX2_milled 88 = .ok (.imul, 1) := by decide +kernel
theorem dX2_milled_89 : decode cX2_milled 89 = .ok (.ireturn, 1) := by decide +kernel
theorem dX2_bestGap_0 : decode cX2_bestGap 0 = .ok (.iconst (-1), 1) := by decide +kernel
theorem dX2_bestGap_1 : decode cX2_bestGap 1 = .ok (.istore_n 1, 1) := by decide +kernel
theorem dX2_bestGap_2 : decode cX2_bestGap 2 = .ok (.iconst (-1), 1) := by decide +kernel
theorem dX2_bestGap_3 : decode cX2_bestGap 3 = .ok (.istore_n 2, 1) := by decide +kernel
theorem dX2_bestGap_4 : decode cX2_bestGap 4 = .ok (.iconst 0, 1) := by decide +kernel
theorem dX2_bestGap_5 : decode cX2_bestGap 5 = .ok (.istore_n 3, 1) := by decide +kernel
theorem dX2_bestGap_6 : decode cX2_bestGap 6 = .ok (.iload_n 3, 1) := by decide +kernel
theorem dX2_bestGap_7 : decode cX2_bestGap 7 = .ok (.aload_n 0, 1) := by decide +kernel
theorem dX2_bestGap_8 : decode cX2_bestGap 8 = .ok (.getfield 28, 3) := by decide +kernel
theorem dX2_bestGap_11 : decode cX2_bestGap 11 = .ok (.iconst 1, 1) := by decide +kernel
theorem dX2_bestGap_12 : decode cX2_bestGap 12 = .ok (.isub, 1) := by decide +kernel
theorem dX2_bestGap_13 : decode cX2_bestGap 13 = .ok (.if_icmp .ge 28, 3) := by decide +kernel
theorem dX2_bestGap_16 : decode cX2_bestGap 16 = .ok (.aload_n 0, 1) := by decide +kernel
theorem dX2_bestGap_17 : decode cX2_bestGap 17 = .ok (.iload_n 3, 1) := by decide +kernel
theorem dX2_bestGap_18 : decode cX2_bestGap 18 = .ok (.iconst 2, 1) := by decide +kernel
theorem dX2_bestGap_19 : decode cX2_bestGap 19 = .ok (.invokevirtual 70, 3) := by decide +kernel
theorem dX2_bestGap_22 : decode cX2_bestGap 22 = .ok (.istore 4, 2) := by decide +kernel
theorem dX2_bestGap_24 : decode cX2_bestGap 24 = .ok (.iload 4, 2) := by decide +kernel
theorem dX2_bestGap_26 : decode cX2_bestGap 26 = .ok (.iload_n 2, 1) := by decide +kernel
theorem dX2_bestGap_27 : decode cX2_bestGap 27 = .ok (.if_icmp .le 8, 3) := by decide +kernel
theorem dX2_bestGap_30 : decode cX2_bestGap 30 = .ok (.iload 4, 2) := by decide +kernel
theorem dX2_bestGap_32 : decode cX2_bestGap 32 = .ok (.istore_n 2, 1) := by decide +kernel
theorem dX2_bestGap_33 : decode cX2_bestGap 33 = .ok (.iload_n 3, 1) := by decide +kernel
theorem dX2_bestGap_34 : decode cX2_bestGap 34 = .ok (.istore_n 1, 1) := by decide +kernel
theorem dX2_bestGap_35 : decode cX2_bestGap 35 = .ok (.iinc 3 1, 3) := by decide +kernel
theorem dX2_bestGap_38 : decode cX2_bestGap 38 = .ok (.goto (-32), 3) := by decide +kernel
theorem dX2_bestGap_41 : decode cX2_bestGap 41 = .ok (.iload_n 1, 1) := by decide +kernel
theorem dX2_bestGap_42 : decode cX2_bestGap 42 = .ok (.ireturn, 1) := by decide +kernel
theorem dX2_flooded_0 : decode cX2_flooded 0 = .ok (.iconst 0, 1) := by decide +kernel
theorem dX2_flooded_1 : decode cX2_flooded 1 = .ok (.istore 4, 2) := by decide +kernel
theorem dX2_flooded_3 : decode cX2_flooded 3 = .ok (.iconst 0, 1) := by decide +kernel
theorem dX2_flooded_4 : decode cX2_flooded 4 = .ok (.istore 5, 2) := by decide +kernel
theorem dX2_flooded_6 : decode cX2_flooded 6 = .ok (.iload 5, 2) := by decide +kernel
theorem dX2_flooded_8 : decode cX2_flooded 8 = .ok (.aload_n 0, 1) := by decide +kernel
theorem dX2_flooded_9 : decode cX2_flooded 9 = .ok (.getfield 28, 3) := by decide +kernel
theorem dX2_flooded_12 : decode cX2_flooded 12 = .ok (.if_icmp .ge 50, 3) := by decide +kernel
theorem dX2_flooded_15 : decode cX2_flooded 15 = .ok (.iconst 0, 1) := by decide +kernel
theorem dX2_flooded_16 : decode cX2_flooded 16 = .ok (.istore 6, 2) := by decide +kernel
theorem dX2_flooded_18 : decode cX2_flooded 18 = .ok (.iload 6, 2) := by decide +kernel
theorem dX2_flooded_20 : decode cX2_flooded 20 = .ok (.iload_n 3, 1) := by decide +kernel
theorem dX2_flooded_21 : decode cX2_flooded 21 = .ok (.if_icmp .ge 35, 3) := by decide +kernel
theorem dX2_flooded_24 : decode cX2_flooded 24 = .ok (.aload_n 0, 1) := by decide +kernel
theorem dX2_flooded_25 : decode cX2_flooded 25 = .ok (.iload 5, 2) := by decide +kernel
theorem dX2_flooded_27 : decode cX2_flooded 27 = .ok (.iload_n 2, 1) := by decide +kernel
theorem dX2_flooded_28 : decode cX2_flooded 28 = .ok (.iload 6, 2) := by decide +kernel
theorem dX2_flooded_30 : decode cX2_flooded 30 = .ok (.iadd, 1) := by decide +kernel
theorem dX2_flooded_31 : decode cX2_flooded 31 = .ok (.invokevirtual 49, 3) := by decide +kernel
theorem dX2_flooded_34 : decode cX2_flooded 34 = .ok (.iload_n 1, 1) := by decide +kernel
theorem dX2_flooded_35 : decode cX2_flooded 35 = .ok (.if_icmp .ge 15, 3) := by decide +kernel
theorem dX2_flooded_38 : decode cX2_flooded 38 = .ok (.iload 4, 2) := by decide +kernel
theorem dX2_flooded_40 : decode cX2_flooded 40 = .ok (.iconst 1, 1) := by decide +kernel
theorem dX2_flooded_41 : decode cX2_flooded 41 = .ok (.iload 5, 2) := by decide +kernel
theorem dX2_flooded_43 : decode cX2_flooded 43 = .ok (.ishl, 1) := by decide +kernel
theorem dX2_flooded_44 : decode cX2_flooded 44 = .ok (.ior, 1) := by decide +kernel
theorem dX2_flooded_45 : decode cX2_flooded 45 = .ok (.istore 4, 2) := by decide +kernel
theorem dX2_flooded_47 : decode cX2_flooded 47 = .ok (.goto 9, 3) := by decide +kernel
theorem dX2_flooded_50 : decode cX2_flooded 50 = .ok (.iinc 6 1, 3) := by decide +kernel
theorem dX2_flooded_53 : decode cX2_flooded 53 = .ok (.goto (-35), 3) := by decide +kernel
theorem dX2_flooded_56 : decode cX2_flooded 56 = .ok (.iinc 5 1, 3) := by decide +kernel
theorem dX2_flooded_59 : decode cX2_flooded 59 = .ok (.goto (-53), 3) := by decide +kernel
theorem dX2_flooded_62 : decode cX2_flooded 62 = .ok (.iload 4, 2) := by decide +kernel
theorem dX2_flooded_64 : decode cX2_flooded 64 = .ok (.ireturn, 1) := by decide +kernel
theorem dX2_fewestSluices_0 : decode cX2_fewestSluices 0 = .ok (.iconst 0, 1) := by decide +kernel
theorem dX2_fewestSluices_1 : decode cX2_fewestSluices 1 = .ok (.aload_n 0, 1) := by decide +kernel
theorem dX2_fewestSluices_2 : decode cX2_fewestSluices 2 = .ok (.getfield 28, 3) := by decide +kernel
theorem dX2_fewestSluices_5 : decode cX2_fewestSluices 5 = .ok (.bipush 8, 2) := by decide +kernel
theorem dX2_fewestSluices_7 : decode cX2_fewestSluices 7 = .ok (.invokestatic 73, 3) := by decide +kernel
theorem dX2_fewestSluices_10 : decode cX2_fewestSluices 10 = .ok (.iconst 1, 1) := by decide +kernel
theorem dX2_fewestSluices_11 : decode cX2_fewestSluices 11 = .ok (.isub, 1) := by decide +kernel
theorem dX2_fewestSluices_12 : decode cX2_fewestSluices 12 = .ok (.invokestatic 52, 3) := by decide +kernel
theorem dX2_fewestSluices_15 : decode cX2_fewestSluices 15 = .ok (.istore_n 2, 1) := by decide +kernel
theorem dX2_fewestSluices_16 : decode cX2_fewestSluices 16 = .ok (.iconst (-1), 1) := by decide +kernel
theorem dX2_fewestSluices_17 : decode cX2_fewestSluices 17 = .ok (.istore_n 3, 1) := by decide +kernel
theorem dX2_fewestSluices_18 : decode cX2_fewestSluices 18 = .ok (.iconst 0, 1) := by decide +kernel
theorem dX2_fewestSluices_19 : decode cX2_fewestSluices 19 = .ok (.istore 4, 2) := by decide +kernel
theorem dX2_fewestSluices_21 : decode cX2_fewestSluices 21 = .ok (.iload 4, 2) := by decide +kernel
theorem dX2_fewestSluices_23 : decode cX2_fewestSluices 23 = .ok (.iconst 1, 1) := by decide +kernel
theorem dX2_fewestSluices_24 : decode cX2_fewestSluices 24 = .ok (.iload_n 2, 1) := by decide +kernel
theorem dX2_fewestSluices_25 : decode cX2_fewestSluices 25 = .ok (.ishl, 1) := by decide +kernel
theorem dX2_fewestSluices_26 : decode cX2_fewestSluices 26 = .ok (.if_icmp .ge 55, 3) := by decide +kernel
theorem dX2_fewestSluices_29 : decode cX2_fewestSluices 29 = .ok (.iload_n 1, 1) := by decide +kernel
theorem dX2_fewestSluices_30 : decode cX2_fewestSluices 30 = .ok (.iload 4, 2) := by decide +kernel
theorem dX2_fewestSluices_32 : decode cX2_fewestSluices 32 = .ok (.iload 4, 2) := by decide +kernel
theorem dX2_fewestSluices_34 : decode cX2_fewestSluices 34 = .ok (.iconst 1, 1) := by decide +kernel
theorem dX2_fewestSluices_35 : decode cX2_fewestSluices 35 = .ok (.ishl, 1) := by decide +kernel
theorem dX2_fewestSluices_36 : decode cX2_fewestSluices 36 = .ok (.ior, 1) := by decide +kernel
theorem dX2_fewestSluices_37 : decode cX2_fewestSluices 37 = .ok (.iconst (-1), 1) := by decide +kernel
theorem dX2_fewestSluices_38 : decode cX2_fewestSluices 38 = .ok (.ixor, 1) := by decide +kernel
theorem dX2_fewestSluices_39 : decode cX2_fewestSluices 39 = .ok (.iand, 1) := by decide +kernel
theorem dX2_fewestSluices_40 : decode cX2_fewestSluices 40 = .ok (.ifCond .ne 7, 3) := by decide +kernel
theorem dX2_fewestSluices_43 : decode cX2_fewestSluices 43 = .ok (.iconst 1, 1) := by decide +kernel
theorem dX2_fewestSluices_44 : decode cX2_fewestSluices 44 = .ok (.goto 4, 3) := by decide +kernel
theorem dX2_fewestSluices_47 : decode cX2_fewestSluices 47 = .ok (.iconst 0, 1) := by decide +kernel
theorem dX2_fewestSluices_48 : decode cX2_fewestSluices 48 = .ok (.istore 5, 2) := by decide +kernel
theorem dX2_fewestSluices_50 : decode cX2_fewestSluices 50 = .ok (.iload 5, 2) := by decide +kernel
theorem dX2_fewestSluices_52 : decode cX2_fewestSluices 52 = .ok (.ifCond .eq 23, 3) := by decide +kernel
theorem dX2_fewestSluices_55 : decode cX2_fewestSluices 55 = .ok (.iload_n 3, 1) := by decide +kernel
theorem dX2_fewestSluices_56 : decode cX2_fewestSluices 56 = .ok (.iconst (-1), 1) := by decide +kernel
theorem dX2_fewestSluices_57 : decode cX2_fewestSluices 57 = .ok (.if_icmp .eq 15, 3) := by decide +kernel
theorem dX2_fewestSluices_60 : decode cX2_fewestSluices 60 = .ok (.iload 4, 2) := by decide +kernel
theorem dX2_fewestSluices_62 : decode cX2_fewestSluices 62 = .ok (.invokestatic 76, 3) := by decide +kernel
theorem dX2_fewestSluices_65 : decode cX2_fewestSluices 65 = .ok (.iload_n 3, 1) := by decide +kernel
theorem dX2_fewestSluices_66 : decode cX2_fewestSluices 66 = .ok (.invokestatic 76, 3) := by decide +kernel
theorem dX2_fewestSluices_69 : decode cX2_fewestSluices 69 = .ok (.if_icmp .ge 6, 3) := by decide +kernel
theorem dX2_fewestSluices_72 : decode cX2_fewestSluices 72 = .ok (.iload 4, 2) := by decide +kernel
theorem dX2_fewestSluices_74 : decode cX2_fewestSluices 74 = .ok (.istore_n 3, 1) := by decide +kernel
theorem dX2_fewestSluices_75 : decode cX2_fewestSluices 75 = .ok (.iinc 4 1, 3) := by decide +kernel
theorem dX2_fewestSluices_78 : decode cX2_fewestSluices 78 = .ok (.goto (-57), 3) := by decide +kernel
theorem dX2_fewestSluices_81 : decode cX2_fewestSluices 81 = .ok (.iload_n 3, 1) := by decide +kernel
theorem dX2_fewestSluices_82 : decode cX2_fewestSluices 82 = .ok (.ireturn, 1) := by decide +kernel
theorem dX2_chanceOf_0 : decode cX2_chanceOf 0 = .ok (.iload 4, 2) := by decide +kernel
theorem dX2_chanceOf_2 : decode cX2_chanceOf 2 = .ok (.bipush 20, 2) := by decide +kernel
theorem dX2_chanceOf_4 : decode cX2_chanceOf 4 = .ok (.invokestatic 73, 3) := by decide +kernel
theorem dX2_chanceOf_7 : decode cX2_chanceOf 7 = .ok (.istore 6, 2) := by decide +kernel
theorem dX2_chanceOf_9 : decode cX2_chanceOf 9 = .ok (.aload_n 0, 1) := by decide +kernel
theorem dX2_chanceOf_10 : decode cX2_chanceOf 10 = .ok (.getfield 24, 3) := by decide +kernel
theorem dX2_chanceOf_13 : decode cX2_chanceOf 13 = .ok (.iconst 0, 1) := by decide +kernel
theorem dX2_chanceOf_14 : decode cX2_chanceOf 14 = .ok (.ldc2_w 81, 3) := by decide +kernel
theorem dX2_chanceOf_17 : decode cX2_chanceOf 17 = .ok (.lastore, 1) := by decide +kernel
theorem dX2_chanceOf_18 : decode cX2_chanceOf 18 = .ok (.iconst 1, 1) := by decide +kernel
theorem dX2_chanceOf_19 : decode cX2_chanceOf 19 = .ok (.istore 7, 2) := by decide +kernel
theorem dX2_chanceOf_21 : decode cX2_chanceOf 21 = .ok (.iload 7, 2) := by decide +kernel
theorem dX2_chanceOf_23 : decode cX2_chanceOf 23 = .ok (.iload 6, 2) := by decide +kernel
theorem dX2_chanceOf_25 : decode cX2_chanceOf 25 = .ok (.if_icmp .gt 17, 3) := by decide +kernel
theorem dX2_chanceOf_28 : decode cX2_chanceOf 28 = .ok (.aload_n 0, 1) := by decide +kernel
theorem dX2_chanceOf_29 : decode cX2_chanceOf 29 = .ok (.iload 7, 2) := by decide +kernel
theorem dX2_chanceOf_31 : decode cX2_chanceOf 31 = .ok (.iload 5, 2) := by decide +kernel
theorem dX2_chanceOf_33 : decode cX2_chanceOf 33 = .ok (.invokevirtual 83, 3) := by decide +kernel
theorem dX2_chanceOf_36 : decode cX2_chanceOf 36 = .ok (.iinc 7 1, 3) := by decide +kernel
theorem dX2_chanceOf_39 : decode cX2_chanceOf 39 = .ok (.goto (-18), 3) := by decide +kernel
theorem dX2_chanceOf_42 : decode cX2_chanceOf 42 = .ok (.lconst 0, 1) := by decide +kernel
theorem dX2_chanceOf_43 : decode cX2_chanceOf 43 = .ok (.lstore 7, 2) := by decide +kernel
theorem dX2_chanceOf_45 : decode cX2_chanceOf 45 = .ok (.iconst 0, 1) := by decide +kernel
theorem dX2_chanceOf_46 : decode cX2_chanceOf 46 = .ok (.istore 9, 2) := by decide +kernel
theorem dX2_chanceOf_48 : decode cX2_chanceOf 48 = .ok (.iload 9, 2) := by decide +kernel
theorem dX2_chanceOf_50 : decode cX2_chanceOf 50 = .ok (.iload 6, 2) := by decide +kernel
theorem dX2_chanceOf_52 : decode cX2_chanceOf 52 = .ok (.if_icmp .gt 37, 3) := by decide +kernel
theorem dX2_chanceOf_55 : decode cX2_chanceOf 55 = .ok (.aload_n 0, 1) := by decide +kernel
theorem dX2_chanceOf_56 : decode cX2_chanceOf 56 = .ok (.iload_n 1, 1) := by decide +kernel
theorem dX2_chanceOf_57 : decode cX2_chanceOf 57 = .ok (.iload_n 3, 1) := by decide +kernel
theorem dX2_chanceOf_58 : decode cX2_chanceOf 58 = .ok (.iload 6, 2) := by decide +kernel
theorem dX2_chanceOf_60 : decode cX2_chanceOf 60 = .ok (.iadd, 1) := by decide +kernel
theorem dX2_chanceOf_61 : decode cX2_chanceOf 61 = .ok (.iload 9, 2) := by decide +kernel
theorem dX2_chanceOf_63 : decode cX2_chanceOf 63 = .ok (.isub, 1) := by decide +kernel
theorem dX2_chanceOf_64 : decode cX2_chanceOf 64 = .ok (.invokevirtual 49, 3) := by decide +kernel
theorem dX2_chanceOf_67 : decode cX2_chanceOf 67 = .ok (.iload_n 2, 1) := by decide +kernel
theorem dX2_chanceOf_68 : decode cX2_chanceOf 68 = .ok (.if_icmp .lt 15, 3) := by decide +kernel
theorem dX2_chanceOf_71 : decode cX2_chanceOf 71 = .ok (.lload 7, 2) := by decide +kernel
theorem dX2_chanceOf_73 : decode cX2_chanceOf 73 = .ok (.aload_n 0, 1) := by decide +kernel
theorem dX2_chanceOf_74 : decode cX2_chanceOf 74 = .ok (.getfield 24, 3) := by decide +kernel
theorem dX2_chanceOf_77 : decode cX2_chanceOf 77 = .ok (.iload 9, 2) := by decide +kernel
theorem dX2_chanceOf_79 : decode cX2_chanceOf 79 = .ok (.laload, 1) := by decide +kernel
theorem dX2_chanceOf_80 : decode cX2_chanceOf 80 = .ok (.ladd, 1) := by decide +kernel
theorem dX2_chanceOf_81 : decode cX2_chanceOf 81 = .ok (.lstore 7, 2) := by decide +kernel
theorem dX2_chanceOf_83 : decode cX2_chanceOf 83 = .ok (.iinc 9 1, 3) := by decide +kernel
theorem dX2_chanceOf_86 : decode cX2_chanceOf 86 = .ok (.goto (-38), 3) := by decide +kernel
theorem dX2_chanceOf_89 : decode cX2_chanceOf 89 = .ok (.lload 7, 2) := by decide +kernel
theorem dX2_chanceOf_91 : decode cX2_chanceOf 91 = .ok (.l2i, 1) := by decide +kernel
theorem dX2_chanceOf_92 : decode cX2_chanceOf 92 = .ok (.ireturn, 1) := by decide +kernel
theorem dX2_shareOut_0 : decode cX2_shareOut 0 = .ok (.iload_n 1, 1) := by decide +kernel
theorem dX2_shareOut_1 : decode cX2_shareOut 1 = .ok (.iconst 1, 1) := by decide +kernel
theorem dX2_shareOut_2 : decode cX2_shareOut 2 = .ok (.if_icmp .lt 9, 3) := by decide +kernel
theorem dX2_shareOut_5 : decode cX2_shareOut 5 = .ok (.iload_n 1, 1) := by decide +kernel
theorem dX2_shareOut_6 : decode cX2_shareOut 6 = .ok (.bipush 20, 2) := by decide +kernel
theorem dX2_shareOut_8 : decode cX2_shareOut 8 = .ok (.if_icmp .le 4, 3) := by decide +kernel
theorem dX2_shareOut_11 : decode cX2_shareOut 11 = .ok (.return_, 1) := by decide +kernel
theorem dX2_shareOut_12 : decode cX2_shareOut 12 = .ok (.aload_n 0, 1) := by decide +kernel
theorem dX2_shareOut_13 : decode cX2_shareOut 13 = .ok (.getfield 24, 3) := by decide +kernel
theorem dX2_shareOut_16 : decode cX2_shareOut 16 = .ok (.iload_n 1, 1) := by decide +kernel
theorem dX2_shareOut_17 : decode cX2_shareOut 17 = .ok (.lconst 0, 1) := by decide +kernel
theorem dX2_shareOut_18 : decode cX2_shareOut 18 = .ok (.lastore, 1) := by decide +kernel
theorem dX2_shareOut_19 : decode cX2_shareOut 19 = .ok (.iload_n 1, 1) := by decide +kernel
theorem dX2_shareOut_20 : decode cX2_shareOut 20 = .ok (.iconst 1, 1) := by decide +kernel
theorem dX2_shareOut_21 : decode cX2_shareOut 21 = .ok (.isub, 1) := by decide +kernel
theorem dX2_shareOut_22 : decode cX2_shareOut 22 = .ok (.istore_n 3, 1) := by decide +kernel
theorem dX2_shareOut_23 : decode cX2_shareOut 23 = .ok (.iload_n 3, 1) := by decide +kernel
theorem dX2_shareOut_24 : decode cX2_shareOut 24 = .ok (.ifCond .lt 48, 3) := by decide +kernel
theorem dX2_shareOut_27 : decode cX2_shareOut 27 = .ok (.aload_n 0, 1) := by decide +kernel
theorem dX2_shareOut_28 : decode cX2_shareOut 28 = .ok (.getfield 24, 3) := by decide +kernel
theorem dX2_shareOut_31 : decode cX2_shareOut 31 = .ok (.iload_n 3, 1) := by decide +kernel
theorem dX2_shareOut_32 : decode cX2_shareOut 32 = .ok (.laload, 1) := by decide +kernel
theorem dX2_shareOut_33 : decode cX2_shareOut 33 = .ok (.iload_n 2, 1) := by decide +kernel
theorem dX2_shareOut_34 : decode cX2_shareOut 34 = .ok (.i2l, 1) := by decide +kernel
theorem dX2_shareOut_35 : decode cX2_shareOut 35 = .ok (.lmul, 1) := by decide +kernel
theorem dX2_shareOut_36 : decode cX2_shareOut 36 = .ok (.ldc2_w 87, 3) := by decide +kernel
theorem dX2_shareOut_39 : decode cX2_shareOut 39 = .ok (.ldiv, 1) := by decide +kernel
theorem dX2_shareOut_40 : decode cX2_shareOut 40 = .ok (.lstore 4, 2) := by decide +kernel
theorem dX2_shareOut_42 : decode cX2_shareOut 42 = .ok (.aload_n 0, 1) := by decide +kernel
theorem dX2_shareOut_43 : decode cX2_shareOut 43 = .ok (.getfield 24, 3) := by decide +kernel
theorem dX2_shareOut_46 : decode cX2_shareOut 46 = .ok (.iload_n 3, 1) := by decide +kernel
theorem dX2_shareOut_47 : decode cX2_shareOut 47 = .ok (.iconst 1, 1) := by decide +kernel
theorem dX2_shareOut_48 : decode cX2_shareOut 48 = .ok (.iadd, 1) := by decide +kernel
theorem dX2_shareOut_49 : decode cX2_shareOut 49 = .ok (.dup2, 1) := by decide +kernel
theorem dX2_shareOut_50 : decode cX2_shareOut 50 = .ok (.laload, 1) := by decide +kernel
theorem dX2_shareOut_51 : decode cX2_shareOut 51 = .ok (.lload 4, 2) := by decide +kernel
theorem dX2_shareOut_53 : decode cX2_shareOut 53 = .ok (.ladd, 1) := by decide +kernel
theorem dX2_shareOut_54 : decode cX2_shareOut 54 = .ok (.lastore, 1) := by decide +kernel
theorem dX2_shareOut_55 : decode cX2_shareOut 55 = .ok (.aload_n 0, 1) := by decide +kernel
theorem dX2_shareOut_56 : decode cX2_shareOut 56 = .ok (.getfield 24, 3) := by decide +kernel
theorem dX2_shareOut_59 : decode cX2_shareOut 59 = .ok (.iload_n 3, 1) := by decide +kernel
theorem dX2_shareOut_60 : decode cX2_shareOut 60 = .ok (.dup2, 1) := by decide +kernel
theorem dX2_shareOut_61 : decode cX2_shareOut 61 = .ok (.laload, 1) := by decide +kernel
theorem dX2_shareOut_62 : decode cX2_shareOut 62 = .ok (.lload 4, 2) := by decide +kernel
theorem dX2_shareOut_64 : decode cX2_shareOut 64 = .ok (.lsub, 1) := by decide +kernel
theorem dX2_shareOut_65 : decode cX2_shareOut 65 = .ok (.lastore, 1) := by decide +kernel
theorem dX2_shareOut_66 : decode cX2_shareOut 66 = .ok (.iinc 3 (-1), 3) := by decide +kernel
theorem dX2_shareOut_69 : decode cX2_shareOut 69 = .ok (.goto (-46), 3) := by decide +kernel
theorem dX2_shareOut_72 : decode cX2_shareOut 72 = .ok (.return_, 1) := by decide +kernel
theorem dX3_init_0 : decode cX3_init 0 = .ok (.aload_n 0, 1) := by decide +kernel
theorem dX3_init_1 : decode cX3_init 1 = .ok (.invokespecial 3, 3) := by decide +kernel
theorem dX3_init_4 : decode cX3_init 4 = .ok (.aload_n 0, 1) := by decide +kernel
theorem dX3_init_5 : decode cX3_init 5 = .ok (.sipush 248, 3) := by decide +kernel
theorem dX3_init_8 : decode cX3_init 8 = .ok (.newarray .int, 2) := by decide +kernel
theorem dX3_init_10 : decode cX3_init 10 = .ok (.putfield 9, 3) := by decide +kernel
theorem dX3_init_13 : decode cX3_init 13 = .ok (.aload_n 0, 1) := by decide +kernel
theorem dX3_init_14 : decode cX3_init 14 = .ok (.iconst 0, 1) := by decide +kernel
theorem dX3_init_15 : decode cX3_init 15 = .ok (.putfield 15, 3) := by decide +kernel
theorem dX3_init_18 : decode cX3_init 18 = .ok (.aload_n 0, 1) := by decide +kernel
theorem dX3_init_19 : decode cX3_init 19 = .ok (.iconst 0, 1) := by decide +kernel
theorem dX3_init_20 : decode cX3_init 20 = .ok (.putfield 19, 3) := by decide +kernel
theorem dX3_init_23 : decode cX3_init 23 = .ok (.return_, 1) := by decide +kernel
theorem dX3_fewestSteps_0 : decode cX3_fewestSteps 0 = .ok (.iload_n 3, 1) := by decide +kernel
theorem dX3_fewestSteps_1 : decode cX3_fewestSteps 1 = .ok (.istore 5, 2) := by decide +kernel
theorem dX3_fewestSteps_3 : decode cX3_fewestSteps 3 = .ok (.iconst 0, 1) := by decide +kernel
theorem dX3_fewestSteps_4 : decode cX3_fewestSteps 4 = .ok (.istore 6, 2) := by decide +kernel
theorem dX3_fewestSteps_6 : decode cX3_fewestSteps 6 = .ok (.iload 5, 2) := by decide +kernel
theorem dX3_fewestSteps_8 : decode cX3_fewestSteps 8 = .ok (.iload 4, 2) := by decide +kernel
theorem dX3_fewestSteps_10 : decode cX3_fewestSteps 10 = .ok (.if_icmp .eq 65, 3) := by decide +kernel
theorem dX3_fewestSteps_13 : decode cX3_fewestSteps 13 = .ok (.iload 6, 2) := by decide +kernel
theorem dX3_fewestSteps_15 : decode cX3_fewestSteps 15 = .ok (.sipush 200, 3) := by decide +kernel
theorem dX3_fewestSteps_18 : decode cX3_fewestSteps 18 = .ok (.if_icmp .ge 57, 3) := by decide +kernel
theorem dX3_fewestSteps_21 : decode cX3_fewestSteps 21 = .ok (.iinc 6 1, 3) := by decide +kernel
theorem dX3_fewestSteps_24 : decode cX3_fewestSteps 24 = .ok (.iload 5, 2) := by decide +kernel
theorem dX3_fewestSteps_26 : decode cX3_fewestSteps 26 = .ok (.iload 4, 2) := by decide +kernel
theorem dX3_fewestSteps_28 : decode cX3_fewestSteps 28 = .ok (.if_icmp .ge 10, 3) := by decide +kernel
theorem dX3_fewestSteps_31 : decode cX3_fewestSteps 31 = .ok (.iload 5, 2) := by decide +kernel
theorem dX3_fewestSteps_33 : decode cX3_fewestSteps 33 = .ok (.iconst 1, 1) := by decide +kernel
theorem dX3_fewestSteps_34 : decode cX3_fewestSteps 34 = .ok (.iadd, 1) := by decide +kernel
theorem dX3_fewestSteps_35 : decode cX3_fewestSteps 35 = .ok (.goto 7, 3) := by decide +kernel
theorem dX3_fewestSteps_38 : decode cX3_fewestSteps 38 = .ok (.iload 5, 2) := by decide +kernel
theorem dX3_fewestSteps_40 : decode cX3_fewestSteps 40 = .ok (.iconst 1, 1) := by decide +kernel
theorem dX3_fewestSteps_41 : decode cX3_fewestSteps 41 = .ok (.isub, 1) := by decide +kernel
theorem dX3_fewestSteps_42 : decode cX3_fewestSteps 42 = .ok (.istore 7, 2) := by decide +kernel
theorem dX3_fewestSteps_44 : decode cX3_fewestSteps 44 = .ok (.aload_n 1, 1) := by decide +kernel
theorem dX3_fewestSteps_45 : decode cX3_fewestSteps 45 = .ok (.getfield 22, 3) := by decide +kernel
theorem dX3_fewestSteps_48 : decode cX3_fewestSteps 48 = .ok (.iload 5, 2) := by decide +kernel
theorem dX3_fewestSteps_50 : decode cX3_fewestSteps 50 = .ok (.iload 7, 2) := by decide +kernel
theorem dX3_fewestSteps_52 : decode cX3_fewestSteps 52 = .ok (.invokestatic 28, 3) := by decide +kernel
theorem dX3_fewestSteps_55 : decode cX3_fewestSteps 55 = .ok (.aload_n 2, 1) := by decide +kernel
theorem dX3_fewestSteps_56 : decode cX3_fewestSteps 56 = .ok (.getfield 34, 3) := by decide +kernel
theorem dX3_fewestSteps_59 : decode cX3_fewestSteps 59 = .ok (.iload 6, 2) := by decide +kernel
theorem dX3_fewestSteps_61 : decode cX3_fewestSteps 61 = .ok (.iadd, 1) := by decide +kernel
theorem dX3_fewestSteps_62 : decode cX3_fewestSteps 62 = .ok (.invokevirtual 39, 3) := by decide +kernel
theorem dX3_fewestSteps_65 : decode cX3_fewestSteps 65 = .ok (.ifCond .eq 7, 3) := by decide +kernel
theorem dX3_fewestSteps_68 : decode cX3_fewestSteps 68 = .ok (.iload 7, 2) := by decide +kernel
theorem dX3_fewestSteps_70 : decode cX3_fewestSteps 70 = .ok (.istore 5, 2) := by decide +kernel
theorem dX3_fewestSteps_72 : decode cX3_fewestSteps 72 = .ok (.goto (-66), 3) := by decide +kernel
theorem dX3_fewestSteps_75 : decode cX3_fewestSteps 75 = .ok (.iload 5, 2) := by decide +kernel
theorem dX3_fewestSteps_77 : decode cX3_fewestSteps 77 = .ok (.iload 4, 2) := by decide +kernel
theorem dX3_fewestSteps_79 : decode cX3_fewestSteps 79 = .ok (.if_icmp .ne 8, 3) := by decide +kernel
theorem dX3_fewestSteps_82 : decode cX3_fewestSteps 82 = .ok (.iload 6, 2) := by decide +kernel
theorem dX3_fewestSteps_84 : decode cX3_fewestSteps 84 = .ok (.goto 4, 3) := by decide +kernel
theorem dX3_fewestSteps_87 : decode cX3_fewestSteps 87 = .ok (.iconst (-1), 1) := by decide +kernel
theorem dX3_fewestSteps_88 : decode cX3_fewestSteps 88 = .ok (.ireturn, 1) := by decide +kernel
theorem dX3_weigh_0 : decode cX3_weigh 0 = .ok (.aload_n 0, 1) := by decide +kernel
theorem dX3_weigh_1 : decode cX3_weigh 1 = .ok (.iload_n 3, 1) := by decide +kernel
theorem dX3_weigh_2 : decode cX3_weigh 2 = .ok (.putfield 15, 3) := by decide +kernel
theorem dX3_weigh_5 : decode cX3_weigh 5 = .ok (.aload_n 0, 1) := by decide +kernel
theorem dX3_weigh_6 : decode cX3_weigh 6 = .ok (.iconst 0, 1) := by decide +kernel
theorem dX3_weigh_7 : decode cX3_weigh 7 = .ok (.iload 4, 2) := by decide +kernel
theorem dX3_weigh_9 : decode cX3_weigh 9 = .ok (.bipush 30, 2) := by decide +kernel
theorem dX3_weigh_11 : decode cX3_weigh 11 = .ok (.invokestatic 28, 3) := by decide +kernel
theorem dX3_weigh_14 : decode cX3_weigh 14 = .ok (.invokestatic 45, 3) := by decide +kernel
theorem dX3_weigh_17 : decode cX3_weigh 17 = .ok (.putfield 19, 3) := by decide +kernel
theorem dX3_weigh_20 : decode cX3_weigh 20 = .ok (.aload_n 0, 1) := by decide +kernel
theorem dX3_weigh_21 : decode cX3_weigh 21 = .ok (.getfield 19, 3) := by decide +kernel
theorem dX3_weigh_24 : decode cX3_weigh 24 = .ok (.istore 5, 2) := by decide +kernel
theorem dX3_weigh_26 : decode cX3_weigh 26 = .ok (.iload 5, 2) := by decide +kernel
theorem dX3_weigh_28 : decode cX3_weigh 28 = .ok (.ifCond .lt 114, 3) := by decide +kernel
theorem dX3_weigh_31 : decode cX3_weigh 31 = .ok (.iconst 0, 1) := by decide +kernel
theorem dX3_weigh_32 : decode cX3_weigh 32 = .ok (.istore 6, 2) := by decide +kernel
theorem dX3_weigh_34 : decode cX3_weigh 34 = .ok (.iload 6, 2) := by decide +kernel
theorem dX3_weigh_36 : decode cX3_weigh 36 = .ok (.aload_n 1, 1) := by decide +kernel
theorem dX3_weigh_37 : decode cX3_weigh 37 = .ok (.getfield 48, 3) := by decide +kernel
theorem dX3_weigh_40 : decode cX3_weigh 40 = .ok (.getfield 52, 3) := by decide +kernel
theorem dX3_weigh_43 : decode cX3_weigh 43 = .ok (.if_icmp .ge 93, 3) := by decide +kernel
theorem dX3_weigh_46 : decode cX3_weigh 46 = .ok (.iload 6, 2) := by decide +kernel
theorem dX3_weigh_48 : decode cX3_weigh 48 = .ok (.aload_n 0, 1) := by decide +kernel
theorem dX3_weigh_49 : decode cX3_weigh 49 = .ok (.getfield 15, 3) := by decide +kernel
theorem dX3_weigh_52 : decode cX3_weigh 52 = .ok (.if_icmp .ne 7, 3) := by decide +kernel
theorem dX3_weigh_55 : decode cX3_weigh 55 = .ok (.iconst 0, 1) := by decide +kernel
theorem dX3_weigh_56 : decode cX3_weigh 56 = .ok (.goto 5, 3) := by decide +kernel
theorem dX3_weigh_59 : decode cX3_weigh 59 = .ok (.ldc 57, 2) := by decide +kernel
theorem dX3_weigh_61 : decode cX3_weigh 61 = .ok (.istore 7, 2) := by decide +kernel
theorem dX3_weigh_63 : decode cX3_weigh 63 = .ok (.iconst 0, 1) := by decide +kernel
theorem dX3_weigh_64 : decode cX3_weigh 64 = .ok (.istore 8, 2) := by decide +kernel
theorem dX3_weigh_66 : decode cX3_weigh 66 = .ok (.iload 8, 2) := by decide +kernel
theorem dX3_weigh_68 : decode cX3_weigh 68 = .ok (.iconst 2, 1) := by decide +kernel
theorem dX3_weigh_69 : decode cX3_weigh 69 = .ok (.if_icmp .gt 46, 3) := by decide +kernel
theorem dX3_weigh_72 : decode cX3_weigh 72 = .ok (.iload 5, 2) := by decide +kernel
theorem dX3_weigh_74 : decode cX3_weigh 74 = .ok (.aload_n 0, 1) := by decide +kernel
theorem dX3_weigh_75 : decode cX3_weigh 75 = .ok (.getfield 19, 3) := by decide +kernel
theorem dX3_weigh_78 : decode cX3_weigh 78 = .ok (.if_icmp .ge 37, 3) := by decide +kernel
theorem dX3_weigh_81 : decode cX3_weigh 81 = .ok (.iload 6, 2) := by decide +kernel
theorem dX3_weigh_83 : decode cX3_weigh 83 = .ok (.aload_n 0, 1) := by decide +kernel
theorem dX3_weigh_84 : decode cX3_weigh 84 = .ok (.getfield 15, 3) := by decide +kernel
theorem dX3_weigh_87 : decode cX3_weigh 87 = .ok (.if_icmp .eq 28, 3) := by decide +kernel
theorem dX3_weigh_90 : decode cX3_weigh 90 = .ok (.iload 7, 2) := by decide +kernel
theorem dX3_weigh_92 : decode cX3_weigh 92 = .ok (.aload_n 0, 1) := by decide +kernel
theorem dX3_weigh_93 : decode cX3_weigh 93 = .ok (.aload_n 1, 1) := by decide +kernel
theorem dX3_weigh_94 : decode cX3_weigh 94 = .ok (.aload_n 2, 1) := by decide +kernel
theorem dX3_weigh_95 : decode cX3_weigh 95 = .ok (.iload 5, 2) := by decide +kernel
theorem dX3_weigh_97 : decode cX3_weigh 97 = .ok (.iload 6, 2) := by decide +kernel
theorem dX3_weigh_99 : decode cX3_weigh 99 = .ok (.iload 8, 2) := by decide +kernel
theorem dX3_weigh_101 : decode cX3_weigh 101 = .ok (.invokevirtual 58, 3) := by decide +kernel
theorem dX3_weigh_104 : decode cX3_weigh 104 = .ok (.invokestatic 28, 3) := by decide +kernel
theorem dX3_weigh_107 : decode cX3_weigh 107 = .ok (.istore 7, 2) := by decide +kernel
theorem dX3_weigh_109 : decode cX3_weigh 109 = .ok (.iinc 8 1, 3) := by decide +kernel
theorem dX3_weigh_112 : decode cX3_weigh 112 = .ok (.goto (-46), 3) := by decide +kernel
theorem dX3_weigh_115 : decode cX3_weigh 115 = .ok (.aload_n 0, 1) := by decide +kernel
theorem dX3_weigh_116 : decode cX3_weigh 116 = .ok (.getfield 9, 3) := by decide +kernel
theorem dX3_weigh_119 : decode cX3_weigh 119 = .ok (.iload 5, 2) := by decide +kernel
theorem dX3_weigh_121 : decode cX3_weigh 121 = .ok (.bipush 8, 2) := by decide +kernel
theorem dX3_weigh_123 : decode cX3_weigh 123 = .ok (.imul, 1) := by decide +kernel
theorem dX3_weigh_124 : decode cX3_weigh 124 = .ok (.iload 6, 2) := by decide +kernel
theorem dX3_weigh_126 : decode cX3_weigh 126 = .ok (.iadd, 1) := by decide +kernel
theorem dX3_weigh_127 : decode cX3_weigh 127 = .ok (.iload 7, 2) := by decide +kernel
theorem dX3_weigh_129 : decode cX3_weigh 129 = .ok (.iastore, 1) := by decide +kernel
theorem dX3_weigh_130 : decode cX3_weigh 130 = .ok (.iinc 6 1, 3) := by decide +kernel
theorem dX3_weigh_133 : decode cX3_weigh 133 = .ok (.goto (-99), 3) := by decide +kernel
theorem dX3_weigh_136 : decode cX3_weigh 136 = .ok (.iinc 5 (-1), 3) := by decide +kernel
theorem dX3_weigh_139 : decode cX3_weigh 139 = .ok (.goto (-113), 3) := by decide +kernel
theorem dX3_weigh_142 : decode cX3_weigh 142 = .ok (.return_, 1) := by decide +kernel
theorem dX3_leastPulled_0 : decode cX3_leastPulled 0 = .ok (.aload_n 0, 1) := by decide +kernel
theorem dX3_leastPulled_1 : decode cX3_leastPulled 1 = .ok (.iconst 0, 1) := by decide +kernel
theorem dX3_leastPulled_2 : decode cX3_leastPulled 2 = .ok (.iload_n 1, 1) := by decide +kernel
theorem dX3_leastPulled_3 : decode cX3_leastPulled 3 = .ok (.invokevirtual 62, 3) := by decide +kernel
theorem dX3_leastPulled_6 : decode cX3_leastPulled 6 = .ok (.istore_n 2, 1) := by decide +kernel
theorem dX3_leastPulled_7 : decode cX3_leastPulled 7 = .ok (.iload_n 2, 1) := by decide +kernel
theorem dX3_leastPulled_8 : decode cX3_leastPulled 8 = .ok (.ldc 57, 2) := by decide +kernel
theorem dX3_leastPulled_10 : decode cX3_leastPulled 10 = .ok (.if_icmp .ge 7, 3) := by decide +kernel
theorem dX3_leastPulled_13 : decode cX3_leastPulled 13 = .ok (.iload_n 2, 1) := by decide +kernel
theorem dX3_leastPulled_14 : decode cX3_leastPulled 14 = .ok (.goto 4, 3) := by decide +kernel
theorem dX3_leastPulled_17 : decode cX3_leastPulled 17 = .ok (.iconst (-1), 1) := by decide +kernel
theorem dX3_leastPulled_18 : decode cX3_leastPulled 18 = .ok (.ireturn, 1) := by decide +kernel
theorem dX3_leastWay_0 : decode cX3_leastWay 0 = .ok (.aload_n 0, 1) := by decide +kernel
theorem dX3_leastWay_1 : decode cX3_leastWay 1 = .ok (.iload_n 3, 1) := by decide +kernel
theorem dX3_leastWay_2 : decode cX3_leastWay 2 = .ok (.invokevirtual 65, 3) := by decide +kernel
theorem dX3_leastWay_5 : decode cX3_leastWay 5 = .ok (.iconst (-1), 1) := by decide +kernel
theorem dX3_leastWay_6 : decode cX3_leastWay 6 = .ok (.if_icmp .ne 5, 3) := by decide +kernel
theorem dX3_leastWay_9 : decode cX3_leastWay 9 = .ok (.iconst (-1), 1) := by decide +kernel
theorem dX3_leastWay_10 : decode cX3_leastWay 10 = .ok (.ireturn, 1) := by decide +kernel
theorem dX3_leastWay_11 : decode cX3_leastWay 11 = .ok (.iload_n 3, 1) := by decide +kernel
theorem dX3_leastWay_12 : decode cX3_leastWay 12 = .ok (.istore 5, 2) := by decide +kernel
theorem dX3_leastWay_14 : decode cX3_leastWay 14 = .ok (.iconst 0, 1) := by decide +kernel
theorem dX3_leastWay_15 : decode cX3_leastWay 15 = .ok (.istore 6, 2) := by decide +kernel
theorem dX3_leastWay_17 : decode cX3_leastWay 17 = .ok (.iload 6, 2) := by decide +kernel
theorem dX3_leastWay_19 : decode cX3_leastWay 19 = .ok (.aload_n 0, 1) := by decide +kernel
theorem dX3_leastWay_20 : decode cX3_leastWay 20 = .ok (.getfield 19, 3) := by decide +kernel
theorem dX3_leastWay_23 : decode cX3_leastWay 23 = .ok (.if_icmp .ge 49, 3) := by decide +kernel
theorem dX3_leastWay_26 : decode cX3_leastWay 26 = .ok (.iload 5, 2) := by decide +kernel
theorem dX3_leastWay_28 : decode cX3_leastWay 28 = .ok (.aload_n 0, 1) := by decide +kernel
theorem dX3_leastWay_29 : decode cX3_leastWay 29 = .ok (.getfield 15, 3) := by decide +kernel
theorem dX3_leastWay_32 : decode cX3_leastWay 32 = .ok (.if_icmp .eq 40, 3) := by decide +kernel
theorem dX3_leastWay_35 : decode cX3_leastWay 35 = .ok (.aload_n 0, 1) := by decide +kernel
theorem dX3_leastWay_36 : decode cX3_leastWay 36 = .ok (.aload_n 1, 1) := by decide +kernel
theorem dX3_leastWay_37 : decode cX3_leastWay 37 = .ok (.aload_n 2, 1) := by decide +kernel
theorem dX3_leastWay_38 : decode cX3_leastWay 38 = .ok (.iload 6, 2) := by decide +kernel
theorem dX3_leastWay_40 : decode cX3_leastWay 40 = .ok (.iload 5, 2) := by decide +kernel
theorem dX3_leastWay_42 : decode cX3_leastWay 42 = .ok (.invokevirtual 69, 3) := by decide +kernel
theorem dX3_leastWay_45 : decode cX3_leastWay 45 = .ok (.istore 7, 2) := by decide +kernel
theorem dX3_leastWay_47 : decode cX3_leastWay 47 = .ok (.iload 6, 2) := by decide +kernel
theorem dX3_leastWay_49 : decode cX3_leastWay 49 = .ok (.iload 4, 2) := by decide +kernel
theorem dX3_leastWay_51 : decode cX3_leastWay 51 = .ok (.if_icmp .ne 6, 3) := by decide +kernel
theorem dX3_leastWay_54 : decode cX3_leastWay 54 = .ok (.iload 7, 2) := by decide +kernel
theorem dX3_leastWay_56 : decode cX3_leastWay 56 = .ok (.ireturn, 1) := by decide +kernel
theorem dX3_leastWay_57 : decode cX3_leastWay 57 = .ok (.iload 5, 2) := by decide +kernel
theorem dX3_leastWay_59 : decode cX3_leastWay 59 = .ok (.iload 7, 2) := by decide +kernel
theorem dX3_leastWay_61 : decode cX3_leastWay 61 = .ok (.invokestatic 73, 3) := by decide +kernel
theorem dX3_leastWay_64 : decode cX3_leastWay 64 = .ok (.istore 5, 2) := by decide +kernel
theorem dX3_leastWay_66 : decode cX3_leastWay 66 = .ok (.iinc 6 1, 3) := by decide +kernel
theorem dX3_leastWay_69 : decode cX3_leastWay 69 = .ok (.goto (-52), 3) := by decide +kernel
theorem dX3_leastWay_72 : decode cX3_leastWay 72 = .ok (.iconst (-1), 1) := by decide +kernel
theorem dX3_leastWay_73 : decode cX3_leastWay 73 = .ok (.ireturn, 1) := by decide +kernel
theorem dX3_firstBest_0 : decode cX3_firstBest 0 = .ok (.aload_n 0, 1) := by decide +kernel
theorem dX3_firstBest_1 : decode cX3_firstBest 1 = .ok (.iload_n 3, 1) := by decide +kernel
theorem dX3_firstBest_2 : decode cX3_firstBest 2 = .ok (.iload 4, 2) := by decide +kernel
theorem dX3_firstBest_4 : decode cX3_firstBest 4 = .ok (.invokevirtual 62, 3) := by decide +kernel
theorem dX3_firstBest_7 : decode cX3_firstBest 7 = .ok (.istore 5, 2) := by decide +kernel
theorem dX3_firstBest_9 : decode cX3_firstBest 9 = .ok (.iconst 0, 1) := by decide +kernel
theorem dX3_firstBest_10 : decode cX3_firstBest 10 = .ok (.istore 6, 2) := by decide +kernel
theorem dX3_firstBest_12 : decode cX3_firstBest 12 = .ok (.iload 6, 2) := by decide +kernel
theorem dX3_firstBest_14 : decode cX3_firstBest 14 = .ok (.iconst 2, 1) := by decide +kernel
theorem dX3_firstBest_15 : decode cX3_firstBest 15 = .ok (.if_icmp .ge 28, 3) := by decide +kernel
theorem dX3_firstBest_18 : decode cX3_firstBest 18 = .ok (.aload_n 0, 1) := by decide +kernel
theorem dX3_firstBest_19 : decode cX3_firstBest 19 = .ok (.aload_n 1, 1) := by decide +kernel
theorem dX3_firstBest_20 : decode cX3_firstBest 20 = .ok (.aload_n 2, 1) := by decide +kernel
theorem dX3_firstBest_21 : decode cX3_firstBest 21 = .ok (.iload_n 3, 1) := by decide +kernel
theorem dX3_firstBest_22 : decode cX3_firstBest 22 = .ok (.iload 4, 2) := by decide +kernel
theorem dX3_firstBest_24 : decode cX3_firstBest 24 = .ok (.iload 6, 2) := by decide +kernel
theorem dX3_firstBest_26 : decode cX3_firstBest 26 = .ok (.invokevirtual 58, 3) := by decide +kernel
theorem dX3_firstBest_29 : decode cX3_firstBest 29 = .ok (.iload 5, 2) := by decide +kernel
theorem dX3_firstBest_31 : decode cX3_firstBest 31 = .ok (.if_icmp .ne 6, 3) := by decide +kernel
theorem dX3_firstBest_34 : decode cX3_firstBest 34 = .ok (.iload 6, 2) := by decide +kernel
theorem dX3_firstBest_36 : decode cX3_firstBest 36 = .ok (.ireturn, 1) := by decide +kernel
theorem dX3_firstBest_37 : decode cX3_firstBest 37 = .ok (.iinc 6 1, 3) := by decide +kernel
theorem dX3_firstBest_40 : decode cX3_firstBest 40 = .ok (.goto (-28), 3) := by decide +kernel
theorem dX3_firstBest_43 : decode cX3_firstBest 43 = .ok (.iconst 2, 1) := by decide +kernel
theorem dX3_firstBest_44 : decode cX3_firstBest 44 = .ok (.ireturn, 1) := by decide +kernel
theorem dX3_pulledBy_0 : decode cX3_pulledBy 0 = .ok (.iload 4, 2) := by decide +kernel
theorem dX3_pulledBy_2 : decode cX3_pulledBy 2 = .ok (.iload 5, 2) := by decide +kernel
theorem dX3_pulledBy_4 : decode cX3_pulledBy 4 = .ok (.invokestatic 73, 3) := by decide +kernel
theorem dX3_pulledBy_7 : decode cX3_pulledBy 7 = .ok (.istore 6, 2) := by decide +kernel
theorem dX3_pulledBy_9 : decode cX3_pulledBy 9 = .ok (.aload_n 1, 1) := by decide +kernel
theorem dX3_pulledBy_10 : decode cX3_pulledBy 10 = .ok (.getfield 48, 3) := by decide +kernel
theorem dX3_pulledBy_13 : decode cX3_pulledBy 13 = .ok (.iload 6, 2) := by decide +kernel
theorem dX3_pulledBy_15 : decode cX3_pulledBy 15 = .ok (.invokevirtual 76, 3) := by decide +kernel
theorem dX3_pulledBy_18 : decode cX3_pulledBy 18 = .ok (.ifCond .ne 6, 3) := by decide +kernel
theorem dX3_pulledBy_21 : decode cX3_pulledBy 21 = .ok (.ldc 57, 2) := by decide +kernel
theorem dX3_pulledBy_23 : decode cX3_pulledBy 23 = .ok (.ireturn, 1) := by decide +kernel
theorem dX3_pulledBy_24 : decode cX3_pulledBy 24 = .ok (.iload 5, 2) := by decide +kernel
theorem dX3_pulledBy_26 : decode cX3_pulledBy 26 = .ok (.ifCond .eq 31, 3) := by decide +kernel
theorem dX3_pulledBy_29 : decode cX3_pulledBy 29 = .ok (.aload_n 1, 1) := by decide +kernel
theorem dX3_pulledBy_30 : decode cX3_pulledBy 30 = .ok (.getfield 22, 3) := by decide +kernel
theorem dX3_pulledBy_33 : decode cX3_pulledBy 33 = .ok (.iload 4, 2) := by decide +kernel
theorem dX3_pulledBy_35 : decode cX3_pulledBy 35 = .ok (.iload 6, 2) := by decide +kernel
theorem dX3_pulledBy_37 : decode cX3_pulledBy 37 = .ok (.invokestatic 28, 3) := by decide +kernel
theorem dX3_pulledBy_40 : decode cX3_pulledBy 40 = .ok (.aload_n 2, 1) := by decide +kernel
theorem dX3_pulledBy_41 : decode cX3_pulledBy 41 = .ok (.getfield 34, 3) := by decide +kernel
theorem dX3_pulledBy_44 : decode cX3_pulledBy 44 = .ok (.iload_n 3, 1) := by decide +kernel
theorem dX3_pulledBy_45 : decode cX3_pulledBy 45 = .ok (.iadd, 1) := by decide +kernel
theorem dX3_pulledBy_46 : decode cX3_pulledBy 46 = .ok (.iconst 1, 1) := by decide +kernel
theorem dX3_pulledBy_47 : decode cX3_pulledBy 47 = .ok (.iadd, 1) := by decide +kernel
theorem dX3_pulledBy_48 : decode cX3_pulledBy 48 = .ok (.invokevirtual 39, 3) := by decide +kernel
theorem dX3_pulledBy_51 : decode cX3_pulledBy 51 = .ok (.ifCond .ne 6, 3) := by decide +kernel
theorem dX3_pulledBy_54 : decode cX3_pulledBy 54 = .ok (.ldc 57, 2) := by decide +kernel
theorem dX3_pulledBy_56 : decode cX3_pulledBy 56 = .ok (.ireturn, 1) := by decide +kernel
theorem dX3_pulledBy_57 : decode cX3_pulledBy 57 = .ok (.aload_n 0, 1) := by decide +kernel
theorem dX3_pulledBy_58 : decode cX3_pulledBy 58 = .ok (.iload_n 3, 1) := by decide +kernel
theorem dX3_pulledBy_59 : decode cX3_pulledBy 59 = .ok (.iconst 1, 1) := by decide +kernel
theorem dX3_pulledBy_60 : decode cX3_pulledBy 60 = .ok (.iadd, 1) := by decide +kernel
theorem dX3_pulledBy_61 : decode cX3_pulledBy 61 = .ok (.iload 6, 2) := by decide +kernel
theorem dX3_pulledBy_63 : decode cX3_pulledBy 63 = .ok (.invokevirtual 62, 3) := by decide +kernel
theorem dX3_pulledBy_66 : decode cX3_pulledBy 66 = .ok (.istore 7, 2) := by decide +kernel
theorem dX3_pulledBy_68 : decode cX3_pulledBy 68 = .ok (.iload 7, 2) := by decide +kernel
theorem dX3_pulledBy_70 : decode cX3_pulledBy 70 = .ok (.ldc 57, 2) := by decide +kernel
theorem dX3_pulledBy_72 : decode cX3_pulledBy 72 = .ok (.if_icmp .lt 8, 3) := by decide +kernel
theorem dX3_pulledBy_75 : decode cX3_pulledBy 75 = .ok (.ldc 57, 2) := by decide +kernel
theorem dX3_pulledBy_77 : decode cX3_pulledBy 77 = .ok (.goto 25, 3) := by decide +kernel
theorem dX3_pulledBy_80 : decode cX3_pulledBy 80 = .ok (.iload 7, 2) := by decide +kernel
theorem dX3_pulledBy_82 : decode cX3_pulledBy 82 = .ok (.aload_n 1, 1) := by decide +kernel
theorem dX3_pulledBy_83 : decode cX3_pulledBy 83 = .ok (.getfield 48, 3) := by decide +kernel
theorem dX3_pulledBy_86 : decode cX3_pulledBy 86 = .ok (.iload 4, 2) := by decide +kernel
theorem dX3_pulledBy_88 : decode cX3_pulledBy 88 = .ok (.iload 6, 2) := by decide +kernel
theorem dX3_pulledBy_90 : decode cX3_pulledBy 90 = .ok (.aload_n 2, 1) := by decide +kernel
theorem dX3_pulledBy_91 : decode cX3_pulledBy 91 = .ok (.getfield 80, 3) := by decide +kernel
theorem dX3_pulledBy_94 : decode cX3_pulledBy 94 = .ok (.iload_n 3, 1) := by decide +kernel
theorem dX3_pulledBy_95 : decode cX3_pulledBy 95 = .ok (.iadd, 1) := by decide +kernel
theorem dX3_pulledBy_96 : decode cX3_pulledBy 96 = .ok (.iconst 1, 1) := by decide +kernel
theorem dX3_pulledBy_97 : decode cX3_pulledBy 97 = .ok (.iadd, 1) := by decide +kernel
theorem dX3_pulledBy_98 : decode cX3_pulledBy 98 = .ok (.invokevirtual 83, 3) := by decide +kernel
theorem dX3_pulledBy_101 : decode cX3_pulledBy 101 = .ok (.iadd, 1) := by decide +kernel
theorem dX3_pulledBy_102 : decode cX3_pulledBy 102 = .ok (.ireturn, 1) := by decide +kernel
theorem dX3_pulledFrom_0 : decode cX3_pulledFrom 0 = .ok (.iload_n 1, 1) := by decide +kernel
theorem dX3_pulledFrom_1 : decode cX3_pulledFrom 1 = .ok (.iconst 0, 1) := by decide +kernel
theorem dX3_pulledFrom_2 : decode cX3_pulledFrom 2 = .ok (.aload_n 0, 1) := by decide +kernel
theorem dX3_pulledFrom_3 : decode cX3_pulledFrom 3 = .ok (.getfield 19, 3) := by decide +kernel
theorem dX3_pulledFrom_6 : decode cX3_pulledFrom 6 = .ok (.invokestatic 87, 3) := by decide +kernel
theorem dX3_pulledFrom_9 : decode cX3_pulledFrom 9 = .ok (.ifCond .ne 13, 3) := by decide +kernel
theorem dX3_pulledFrom_12 : decode cX3_pulledFrom 12 = .ok (.iload_n 2, 1) := by decide +kernel
theorem dX3_pulledFrom_13 : decode cX3_pulledFrom 13 = .ok (.iconst 0, 1) := by decide +kernel
theorem dX3_pulledFrom_14 : decode cX3_pulledFrom 14 = .ok (.bipush 7, 2) := by decide +kernel
theorem dX3_pulledFrom_16 : decode cX3_pulledFrom 16 = .ok (.invokestatic 87, 3) := by decide +kernel
theorem dX3_pulledFrom_19 : decode cX3_pulledFrom 19 = .ok (.ifCond .eq 6, 3) := by decide +kernel
theorem dX3_pulledFrom_22 : decode cX3_pulledFrom 22 = .ok (.ldc 57, 2) := by decide +kernel
theorem dX3_pulledFrom_24 : decode cX3_pulledFrom 24 = .ok (.ireturn, 1) := by decide +kernel
theorem dX3_pulledFrom_25 : decode cX3_pulledFrom 25 = .ok (.aload_n 0, 1) := by decide +kernel
theorem dX3_pulledFrom_26 : decode cX3_pulledFrom 26 = .ok (.getfield 9, 3) := by decide +kernel
theorem dX3_pulledFrom_29 : decode cX3_pulledFrom 29 = .ok (.iload_n 1, 1) := by decide +kernel
theorem dX3_pulledFrom_30 : decode cX3_pulledFrom 30 = .ok (.bipush 8, 2) := by decide +kernel
theorem dX3_pulledFrom_32 : decode cX3_pulledFrom 32 = .ok (.imul, 1) := by decide +kernel
theorem dX3_pulledFrom_33 : decode cX3_pulledFrom 33 = .ok (.iload_n 2, 1) := by decide +kernel
theorem dX3_pulledFrom_34 : decode cX3_pulledFrom 34 = .ok (.iadd, 1) := by decide +kernel
theorem dX3_pulledFrom_35 : decode cX3_pulledFrom 35 = .ok (.iaload, 1) := by decide +kernel
theorem dX3_pulledFrom_36 : decode cX3_pulledFrom 36 = .ok (.ireturn, 1) := by decide +kernel
theorem dX4_init_0 : decode cX4_init 0 = .ok (.aload_n 0, 1) := by decide +kernel
theorem dX4_init_1 : decode cX4_init 1 = .ok (.invokespecial 3, 3) := by decide +kernel
theorem dX4_init_4 : decode cX4_init 4 = .ok (.aload_n 0, 1) := by decide +kernel
theorem dX4_init_5 : decode cX4_init 5 = .ok (.iconst 0, 1) := by decide +kernel
theorem dX4_init_6 : decode cX4_init 6 = .ok (.putfield 9, 3) := by decide +kernel
theorem dX4_init_9 : decode cX4_init 9 = .ok (.aload_n 0, 1) := by decide +kernel
theorem dX4_init_10 : decode cX4_init 10 = .ok (.new 15, 3) := by decide +kernel
theorem dX4_init_13 : decode cX4_init 13 = .ok (.dup, 1) := by decide +kernel
theorem dX4_init_14 : decode cX4_init 14 = .ok (.invokespecial 17, 3) := by decide +kernel
theorem dX4_init_17 : decode cX4_init 17 = .ok (.putfield 18, 3) := by decide +kernel
theorem dX4_init_20 : decode cX4_init 20 = .ok (.aload_n 0, 1) := by decide +kernel
theorem dX4_init_21 : decode cX4_init 21 = .ok (.iconst 4, 1) := by decide +kernel
theorem dX4_init_22 : decode cX4_init 22 = .ok (.newarray .int, 2) := by decide +kernel
theorem dX4_init_24 : decode cX4_init 24 = .ok (.putfield 22, 3) := by decide +kernel
theorem dX4_init_27 : decode cX4_init 27 = .ok (.aload_n 0, 1) := by decide +kernel
theorem dX4_init_28 : decode cX4_init 28 = .ok (.iconst 0, 1) := by decide +kernel
theorem dX4_init_29 : decode cX4_init 29 = .ok (.putfield 26, 3) := by decide +kernel
theorem dX4_init_32 : decode cX4_init 32 = .ok (.return_, 1) := by decide +kernel
theorem dX4_take_0 : decode cX4_take 0 = .ok (.aload_n 0, 1) := by decide +kernel
theorem dX4_take_1 : decode cX4_take 1 = .ok (.iconst 1, 1) := by decide +kernel
theorem dX4_take_2 : decode cX4_take 2 = .ok (.putfield 9, 3) := by decide +kernel
theorem dX4_take_5 : decode cX4_take 5 = .ok (.aload_n 0, 1) := by decide +kernel
theorem dX4_take_6 : decode cX4_take 6 = .ok (.getfield 18, 3) := by decide +kernel
theorem dX4_take_9 : decode cX4_take 9 = .ok (.aload_n 1, 1) := by decide +kernel
theorem dX4_take_10 : decode cX4_take 10 = .ok (.invokevirtual 30, 3) := by decide +kernel
theorem dX4_take_13 : decode cX4_take 13 = .ok (.aload_n 2, 1) := by decide +kernel
theorem dX4_take_14 : decode cX4_take 14 = .ok (.getfield 34, 3) := by decide +kernel
theorem dX4_take_17 : decode cX4_take 17 = .ok (.iconst 0, 1) := by decide +kernel
theorem dX4_take_18 : decode cX4_take 18 = .ok (.aload_n 0, 1) := by decide +kernel
theorem dX4_take_19 : decode cX4_take 19 = .ok (.getfield 22, 3) := by decide +kernel
theorem dX4_take_22 : decode cX4_take 22 = .ok (.iconst 0, 1) := by decide +kernel
theorem dX4_take_23 : decode cX4_take 23 = .ok (.iconst 4, 1) := by decide +kernel
theorem dX4_take_24 : decode cX4_take 24 = .ok (.invokestatic 37, 3) := by decide +kernel
theorem dX4_take_27 : decode cX4_take 27 = .ok (.aload_n 0, 1) := by decide +kernel
theorem dX4_take_28 : decode cX4_take 28 = .ok (.iload_n 3, 1) := by decide +kernel
theorem dX4_take_29 : decode cX4_take 29 = .ok (.putfield 26, 3) := by decide +kernel
theorem dX4_take_32 : decode cX4_take 32 = .ok (.return_, 1) := by decide +kernel
theorem dX4_giveBack_0 : decode cX4_giveBack 0 = .ok (.aload_n 1, 1) := by decide +kernel
theorem dX4_giveBack_1 : decode cX4_giveBack 1 = .ok (.aload_n 0, 1) := by decide +kernel
theorem dX4_giveBack_2 : decode cX4_giveBack 2 = .ok (.getfield 18, 3) := by decide +kernel
theorem dX4_giveBack_5 : decode cX4_giveBack 5 = .ok (.invokevirtual 30, 3) := by decide +kernel
theorem dX4_giveBack_8 : decode cX4_giveBack 8 = .ok (.aload_n 0, 1) := by decide +kernel
theorem dX4_giveBack_9 : decode cX4_giveBack 9 = .ok (.getfield 22, 3) := by decide +kernel
theorem dX4_giveBack_12 : decode cX4_giveBack 12 = .ok (.iconst 0, 1) := by decide +kernel
theorem dX4_giveBack_13 : decode cX4_giveBack 13 = .ok (.aload_n 2, 1) := by decide +kernel
theorem dX4_giveBack_14 : decode cX4_giveBack 14 = .ok (.getfield 34, 3) := by decide +kernel
theorem dX4_giveBack_17 : decode cX4_giveBack 17 = .ok (.iconst 0, 1) := by decide +kernel
theorem dX4_giveBack_18 : decode cX4_giveBack 18 = .ok (.iconst 4, 1) := by decide +kernel
theorem dX4_giveBack_19 : decode cX4_giveBack 19 = .ok (.invokestatic 37, 3) := by decide +kernel
theorem dX4_giveBack_22 : decode cX4_giveBack 22 = .ok (.return_, 1) := by decide +kernel
theorem dX5_init_0 : decode cX5_init 0 = .ok (.aload_n 0, 1) := by decide +kernel
theorem dX5_init_1 : decode cX5_init 1 = .ok (.invokespecial 3, 3) := by decide +kernel
theorem dX5_init_4 : decode cX5_init 4 = .ok (.aload_n 0, 1) := by decide +kernel
theorem dX5_init_5 : decode cX5_init 5 = .ok (.iconst 0, 1) := by decide +kernel
theorem dX5_init_6 : decode cX5_init 6 = .ok (.putfield 9, 3) := by decide +kernel
theorem dX5_init_9 : decode cX5_init 9 = .ok (.aload_n 0, 1) := by decide +kernel
theorem dX5_init_10 : decode cX5_init 10 = .ok (.iconst 0, 1) := by decide +kernel
theorem dX5_init_11 : decode cX5_init 11 = .ok (.putfield 15, 3) := by decide +kernel
theorem dX5_init_14 : decode cX5_init 14 = .ok (.aload_n 0, 1) := by decide +kernel
theorem dX5_init_15 : decode cX5_init 15 = .ok (.iconst (-1), 1) := by decide +kernel
theorem dX5_init_16 : decode cX5_init 16 = .ok (.putfield 18, 3) := by decide +kernel
theorem dX5_init_19 : decode cX5_init 19 = .ok (.aload_n 0, 1) := by decide +kernel
theorem dX5_init_20 : decode cX5_init 20 = .ok (.iconst 0, 1) := by decide +kernel
theorem dX5_init_21 : decode cX5_init 21 = .ok (.putfield 21, 3) := by decide +kernel
theorem dX5_init_24 : decode cX5_init 24 = .ok (.return_, 1) := by decide +kernel
theorem dX5_startAt_0 : decode cX5_startAt 0 = .ok (.aload_n 0, 1) := by decide +kernel
theorem dX5_startAt_1 : decode cX5_startAt 1 = .ok (.iconst 0, 1) := by decide +kernel
theorem dX5_startAt_2 : decode cX5_startAt 2 = .ok (.putfield 9, 3) := by decide +kernel
theorem dX5_startAt_5 : decode cX5_startAt 5 = .ok (.aload_n 0, 1) := by decide +kernel
theorem dX5_startAt_6 : decode cX5_startAt 6 = .ok (.iconst 0, 1) := by decide +kernel
theorem dX5_startAt_7 : decode cX5_startAt 7 = .ok (.putfield 15, 3) := by decide +kernel
theorem dX5_startAt_10 : decode cX5_startAt 10 = .ok (.aload_n 0, 1) := by decide +kernel
theorem dX5_startAt_11 : decode cX5_startAt 11 = .ok (.iload_n 1, 1) := by decide +kernel
theorem dX5_startAt_12 : decode cX5_startAt 12 = .ok (.putfield 18, 3) := by decide +kernel
theorem dX5_startAt_15 : decode cX5_startAt 15 = .ok (.aload_n 0, 1) := by decide +kernel
theorem dX5_startAt_16 : decode cX5_startAt 16 = .ok (.iconst 0, 1) := by decide +kernel
theorem dX5_startAt_17 : decode cX5_startAt 17 = .ok (.putfield 21, 3) := by decide +kernel
theorem dX5_startAt_20 : decode cX5_startAt 20 = .ok (.return_, 1) := by decide +kernel
theorem dX5_become_0 : decode cX5_become 0 = .ok (.aload_n 0, 1) := by decide +kernel
theorem dX5_become_1 : decode cX5_become 1 = .ok (.aload_n 1, 1) := by decide +kernel
theorem dX5_become_2 : decode cX5_become 2 = .ok (.getfield 9, 3) := by decide +kernel
theorem dX5_become_5 : decode cX5_become 5 = .ok (.putfield 9, 3) := by decide +kernel
theorem dX5_become_8 : decode cX5_become 8 = .ok (.aload_n 0, 1) := by decide +kernel
theorem dX5_become_9 : decode cX5_become 9 = .ok (.aload_n 1, 1) := by decide +kernel
theorem dX5_become_10 : decode cX5_become 10 = .ok (.getfield 15, 3) := by decide +kernel
theorem dX5_become_13 : decode cX5_become 13 = .ok (.putfield 15, 3) := by decide +kernel
theorem dX5_become_16 : decode cX5_become 16 = .ok (.aload_n 0, 1) := by decide +kernel
theorem dX5_become_17 : decode cX5_become 17 = .ok (.aload_n 1, 1) := by decide +kernel
theorem dX5_become_18 : decode cX5_become 18 = .ok (.getfield 18, 3) := by decide +kernel
theorem dX5_become_21 : decode cX5_become 21 = .ok (.putfield 18, 3) := by decide +kernel
theorem dX5_become_24 : decode cX5_become 24 = .ok (.aload_n 0, 1) := by decide +kernel
theorem dX5_become_25 : decode cX5_become 25 = .ok (.aload_n 1, 1) := by decide +kernel
theorem dX5_become_26 : decode cX5_become 26 = .ok (.getfield 21, 3) := by decide +kernel
theorem dX5_become_29 : decode cX5_become 29 = .ok (.putfield 21, 3) := by decide +kernel
theorem dX5_become_32 : decode cX5_become 32 = .ok (.return_, 1) := by decide +kernel
theorem dX5_pass_0 : decode cX5_pass 0 = .ok (.aload_n 0, 1) := by decide +kernel
theorem dX5_pass_1 : decode cX5_pass 1 = .ok (.dup, 1) := by decide +kernel
theorem dX5_pass_2 : decode cX5_pass 2 = .ok (.getfield 9, 3) := by decide +kernel
theorem dX5_pass_5 : decode cX5_pass 5 = .ok (.iload_n 1, 1) := by decide +kernel
theorem dX5_pass_6 : decode cX5_pass 6 = .ok (.iadd, 1) := by decide +kernel
theorem dX5_pass_7 : decode cX5_pass 7 = .ok (.putfield 9, 3) := by decide +kernel
theorem dX5_pass_10 : decode cX5_pass 10 = .ok (.iload_n 2, 1) := by decide +kernel
theorem dX5_pass_11 : decode cX5_pass 11 = .ok (.ifCond .ne 13, 3) := by decide +kernel
theorem dX5_pass_14 : decode cX5_pass 14 = .ok (.aload_n 0, 1) := by decide +kernel
theorem dX5_pass_15 : decode cX5_pass 15 = .ok (.dup, 1) := by decide +kernel
theorem dX5_pass_16 : decode cX5_pass 16 = .ok (.getfield 15, 3) := by decide +kernel
theorem dX5_pass_19 : decode cX5_pass 19 = .ok (.iload_n 1, 1) := by decide +kernel
theorem dX5_pass_20 : decode cX5_pass 20 = .ok (.iadd, 1) := by decide +kernel
theorem dX5_pass_21 : decode cX5_pass 21 = .ok (.putfield 15, 3) := by decide +kernel
theorem dX5_pass_24 : decode cX5_pass 24 = .ok (.return_, 1) := by decide +kernel
theorem dX5_canGo_0 : decode cX5_canGo 0 = .ok (.aload_n 0, 1) := by decide +kernel
theorem dX5_canGo_1 : decode cX5_canGo 1 = .ok (.getfield 18, 3) := by decide +kernel
theorem dX5_canGo_4 : decode cX5_canGo 4 = .ok (.iload_n 2, 1) := by decide +kernel
theorem dX5_canGo_5 : decode cX5_canGo 5 = .ok (.invokestatic 24, 3) := by decide +kernel
theorem dX5_canGo_8 : decode cX5_canGo 8 = .ok (.istore_n 3, 1) := by decide +kernel
theorem dX5_canGo_9 : decode cX5_canGo 9 = .ok (.aload_n 1, 1) := by decide +kernel
theorem dX5_canGo_10 : decode cX5_canGo 10 = .ok (.getfield 28, 3) := by decide +kernel
theorem dX5_canGo_13 : decode cX5_canGo 13 = .ok (.aload_n 0, 1) := by decide +kernel
theorem dX5_canGo_14 : decode cX5_canGo 14 = .ok (.getfield 18, 3) := by decide +kernel
theorem dX5_canGo_17 : decode cX5_canGo 17 = .ok (.invokevirtual 34, 3) := by decide +kernel
theorem dX5_canGo_20 : decode cX5_canGo 20 = .ok (.ifCond .eq 14, 3) := by decide +kernel
theorem dX5_canGo_23 : decode cX5_canGo 23 = .ok (.aload_n 1, 1) := by decide +kernel
theorem dX5_canGo_24 : decode cX5_canGo 24 = .ok (.getfield 28, 3) := by decide +kernel
theorem dX5_canGo_27 : decode cX5_canGo 27 = .ok (.iload_n 3, 1) := by decide +kernel
theorem dX5_canGo_28 : decode cX5_canGo 28 = .ok (.invokevirtual 34, 3) := by decide +kernel
theorem dX5_canGo_31 : decode cX5_canGo 31 = .ok (.ifCond .ne 5, 3) := by decide +kernel
theorem dX5_canGo_34 : decode cX5_canGo 34 = .ok (.iconst 0, 1) := by decide +kernel
theorem dX5_canGo_35 : decode cX5_canGo 35 = .ok (.ireturn, 1) := by decide +kernel
theorem dX5_canGo_36 : decode cX5_canGo 36 = .ok (.iload_n 3, 1) := by decide +kernel
theorem dX5_canGo_37 : decode cX5_canGo 37 = .ok (.aload_n 0, 1) := by decide +kernel
theorem dX5_canGo_38 : decode cX5_canGo 38 = .ok (.getfield 18, 3) := by decide +kernel
theorem dX5_canGo_41 : decode cX5_canGo 41 = .ok (.if_icmp .eq 27, 3) := by decide +kernel
theorem dX5_canGo_44 : decode cX5_canGo 44 = .ok (.aload_n 1, 1) := by decide +kernel
theorem dX5_canGo_45 : decode cX5_canGo 45 = .ok (.getfield 40, 3) := by decide +kernel
theorem dX5_canGo_48 : decode cX5_canGo 48 = .ok (.aload_n 0, 1) := by decide +kernel
theorem dX5_canGo_49 : decode cX5_canGo 49 = .ok (.getfield 18, 3) := by decide +kernel
theorem dX5_canGo_52 : decode cX5_canGo 52 = .ok (.iload_n 3, 1) := by decide +kernel
theorem dX5_canGo_53 : decode cX5_canGo 53 = .ok (.invokestatic 44, 3) := by decide +kernel
theorem dX5_canGo_56 : decode cX5_canGo 56 = .ok (.aload_n 0, 1) := by decide +kernel
theorem dX5_canGo_57 : decode cX5_canGo 57 = .ok (.getfield 9, 3) := by decide +kernel
theorem dX5_canGo_60 : decode cX5_canGo 60 = .ok (.iconst 1, 1) := by decide +kernel
theorem dX5_canGo_61 : decode cX5_canGo 61 = .ok (.iadd, 1) := by decide +kernel
theorem dX5_canGo_62 : decode cX5_canGo 62 = .ok (.invokevirtual 49, 3) := by decide +kernel
theorem dX5_canGo_65 : decode cX5_canGo 65 = .ok (.ifCond .eq 7, 3) := by decide +kernel
theorem dX5_canGo_68 : decode cX5_canGo 68 = .ok (.iconst 1, 1) := by decide +kernel
theorem dX5_canGo_69 : decode cX5_canGo 69 = .ok (.goto 4, 3) := by decide +kernel
theorem dX5_canGo_72 : decode cX5_canGo 72 = .ok (.iconst 0, 1) := by decide +kernel
theorem dX5_canGo_73 : decode cX5_canGo 73 = .ok (.ireturn, 1) := by decide +kernel
theorem dX5_go_0 : decode cX5_go 0 = .ok (.aload_n 0, 1) := by decide +kernel
theorem dX5_go_1 : decode cX5_go 1 = .ok (.getfield 18, 3) := by decide +kernel
theorem dX5_go_4 : decode cX5_go 4 = .ok (.iload_n 2, 1) := by decide +kernel
theorem dX5_go_5 : decode cX5_go 5 = .ok (.invokestatic 24, 3) := by decide +kernel
theorem dX5_go_8 : decode cX5_go 8 = .ok (.istore 4, 2) := by decide +kernel
theorem dX5_go_10 : decode cX5_go 10 = .ok (.aload_n 0, 1) := by decide +kernel
theorem dX5_go_11 : decode cX5_go 11 = .ok (.iconst 1, 1) := by decide +kernel
theorem dX5_go_12 : decode cX5_go 12 = .ok (.iload_n 3, 1) := by decide +kernel
theorem dX5_go_13 : decode cX5_go 13 = .ok (.invokevirtual 55, 3) := by decide +kernel
theorem dX5_go_16 : decode cX5_go 16 = .ok (.aload_n 1, 1) := by decide +kernel
theorem dX5_go_17 : decode cX5_go 17 = .ok (.getfield 28, 3) := by decide +kernel
theorem dX5_go_20 : decode cX5_go 20 = .ok (.aload_n 0, 1) := by decide +kernel
theorem dX5_go_21 : decode cX5_go 21 = .ok (.getfield 18, 3) := by decide +kernel
theorem dX5_go_24 : decode cX5_go 24 = .ok (.iload 4, 2) := by decide +kernel
theorem dX5_go_26 : decode cX5_go 26 = .ok (.aload_n 0, 1) := by decide +kernel
theorem dX5_go_27 : decode cX5_go 27 = .ok (.getfield 15, 3) := by decide +kernel
theorem dX5_go_30 : decode cX5_go 30 = .ok (.invokevirtual 59, 3) := by decide +kernel
theorem dX5_go_33 : decode cX5_go 33 = .ok (.istore 5, 2) := by decide +kernel
theorem dX5_go_35 : decode cX5_go 35 = .ok (.aload_n 0, 1) := by decide +kernel
theorem dX5_go_36 : decode cX5_go 36 = .ok (.iload 4, 2) := by decide +kernel
theorem dX5_go_38 : decode cX5_go 38 = .ok (.putfield 18, 3) := by decide +kernel
theorem dX5_go_41 : decode cX5_go 41 = .ok (.aload_n 0, 1) := by decide +kernel
theorem dX5_go_42 : decode cX5_go 42 = .ok (.dup, 1) := by decide +kernel
theorem dX5_go_43 : decode cX5_go 43 = .ok (.getfield 21, 3) := by decide +kernel
theorem dX5_go_46 : decode cX5_go 46 = .ok (.iload 5, 2) := by decide +kernel
theorem dX5_go_48 : decode cX5_go 48 = .ok (.iadd, 1) := by decide +kernel
theorem dX5_go_49 : decode cX5_go 49 = .ok (.putfield 21, 3) := by decide +kernel
theorem dX5_go_52 : decode cX5_go 52 = .ok (.iload 5, 2) := by decide +kernel
theorem dX5_go_54 : decode cX5_go 54 = .ok (.ireturn, 1) := by decide +kernel
theorem dX6_init_0 : decode cX6_init 0 = .ok (.aload_n 0, 1) := by decide +kernel
theorem dX6_init_1 : decode cX6_init 1 = .ok (.invokespecial 3, 3) := by decide +kernel
theorem dX6_init_4 : decode cX6_init 4 = .ok (.aload_n 0, 1) := by decide +kernel
theorem dX6_init_5 : decode cX6_init 5 = .ok (.iconst 4, 1) := by decide +kernel
theorem dX6_init_6 : decode cX6_init 6 = .ok (.newarray .int, 2) := by decide +kernel
theorem dX6_init_8 : decode cX6_init 8 = .ok (.putfield 9, 3) := by decide +kernel
theorem dX6_init_11 : decode cX6_init 11 = .ok (.aload_n 0, 1) := by decide +kernel
theorem dX6_init_12 : decode cX6_init 12 = .ok (.iconst 4, 1) := by decide +kernel
theorem dX6_init_13 : decode cX6_init 13 = .ok (.newarray .int, 2) := by decide +kernel
theorem dX6_init_15 : decode cX6_init 15 = .ok (.putfield 15, 3) := by decide +kernel
theorem dX6_init_18 : decode cX6_init 18 = .ok (.aload_n 0, 1) := by decide +kernel
theorem dX6_init_19 : decode cX6_init 19 = .ok (.iconst 4, 1) := by decide +kernel
theorem dX6_init_20 : decode cX6_init 20 = .ok (.newarray .int, 2) := by decide +kernel
theorem dX6_init_22 : decode cX6_init 22 = .ok (.putfield 18, 3) := by decide +kernel
theorem dX6_init_25 : decode cX6_init 25 = .ok (.aload_n 0, 1) := by decide +kernel
theorem dX6_init_26 : decode cX6_init 26 = .ok (.iconst 4, 1) := by decide +kernel
theorem dX6_init_27 : decode cX6_init 27 = .ok (.newarray .int, 2) := by decide +kernel
theorem dX6_init_29 : decode cX6_init 29 = .ok (.putfield 21, 3) := by decide +kernel
theorem dX6_init_32 : decode cX6_init 32 = .ok (.aload_n 0, 1) := by decide +kernel
theorem dX6_init_33 : decode cX6_init 33 = .ok (.iconst 0, 1) := by decide +kernel
theorem dX6_init_34 : decode cX6_init 34 = .ok (.putfield 24, 3) := by decide +kernel
theorem dX6_init_37 : decode cX6_init 37 = .ok (.return_, 1) := by decide +kernel
theorem dX6_has_0 : decode cX6_has 0 = .ok (.iload_n 1, 1) := by decide +kernel
theorem dX6_has_1 : decode cX6_has 1 = .ok (.ifCond .lt 15, 3) := by decide +kernel
theorem dX6_has_4 : decode cX6_has 4 = .ok (.iload_n 1, 1) := by decide +kernel
theorem dX6_has_5 : decode cX6_has 5 = .ok (.aload_n 0, 1) := by decide +kernel
theorem dX6_has_6 : decode cX6_has 6 = .ok (.getfield 24, 3) := by decide +kernel
theorem dX6_has_9 : decode cX6_has 9 = .ok (.if_icmp .ge 7, 3) := by decide +kernel
theorem dX6_has_12 : decode cX6_has 12 = .ok (.iconst 1, 1) := by decide +kernel
theorem dX6_has_13 : decode cX6_has 13 = .ok (.goto 4, 3) := by decide +kernel
theorem dX6_has_16 : decode cX6_has 16 = .ok (.iconst 0, 1) := by decide +kernel
theorem dX6_has_17 : decode cX6_has 17 = .ok (.ireturn, 1) := by decide +kernel
theorem dX6_hasAll_0 : decode cX6_hasAll 0 = .ok (.iload_n 1, 1) := by decide +kernel
theorem dX6_hasAll_1 : decode cX6_hasAll 1 = .ok (.ifCond .lt 17, 3) := by decide +kernel
theorem dX6_hasAll_4 : decode cX6_hasAll 4 = .ok (.iload_n 1, 1) := by decide +kernel
theorem dX6_hasAll_5 : decode cX6_hasAll 5 = .ok (.iconst 1, 1) := by decide +kernel
theorem dX6_hasAll_6 : decode cX6_hasAll 6 = .ok (.aload_n 0, 1) := by decide +kernel
theorem dX6_hasAll_7 : decode cX6_hasAll 7 = .ok (.getfield 24, 3) := by decide +kernel
theorem dX6_hasAll_10 : decode cX6_hasAll 10 = .ok (.ishl, 1) := by decide +kernel
theorem dX6_hasAll_11 : decode cX6_hasAll 11 = .ok (.if_icmp .ge 7, 3) := by decide +kernel
theorem dX6_hasAll_14 : decode cX6_hasAll 14 = .ok (.iconst 1, 1) := by decide +kernel
theorem dX6_hasAll_15 : decode cX6_hasAll 15 = .ok (.goto 4, 3) := by decide +kernel
theorem dX6_hasAll_18 : decode cX6_hasAll 18 = .ok (.iconst 0, 1) := by decide +kernel
theorem dX6_hasAll_19 : decode cX6_hasAll 19 = .ok (.ireturn, 1) := by decide +kernel
theorem dX6_add_0 : decode cX6_add 0 = .ok (.aload_n 0, 1) := by decide +kernel
theorem dX6_add_1 : decode cX6_add 1 = .ok (.getfield 24, 3) := by decide +kernel
theorem dX6_add_4 : decode cX6_add 4 = .ok (.iconst 4, 1) := by decide +kernel
theorem dX6_add_5 : decode cX6_add 5 = .ok (.if_icmp .lt 4, 3) := by decide +kernel
theorem dX6_add_8 : decode cX6_add 8 = .ok (.return_, 1) := by decide +kernel
theorem dX6_add_9 : decode cX6_add 9 = .ok (.aload_n 0, 1) := by decide +kernel
theorem dX6_add_10 : decode cX6_add 10 = .ok (.getfield 9, 3) := by decide +kernel
theorem dX6_add_13 : decode cX6_add 13 = .ok (.aload_n 0, 1) := by decide +kernel
theorem dX6_add_14 : decode cX6_add 14 = .ok (.getfield 24, 3) := by decide +kernel
theorem dX6_add_17 : decode cX6_add 17 = .ok (.iload_n 1, 1) := by decide +kernel
theorem dX6_add_18 : decode cX6_add 18 = .ok (.iastore, 1) := by decide +kernel
theorem dX6_add_19 : decode cX6_add 19 = .ok (.aload_n 0, 1) := by decide +kernel
theorem dX6_add_20 : decode cX6_add 20 = .ok (.getfield 15, 3) := by decide +kernel
theorem dX6_add_23 : decode cX6_add 23 = .ok (.aload_n 0, 1) := by decide +kernel
theorem dX6_add_24 : decode cX6_add 24 = .ok (.getfield 24, 3) := by decide +kernel
theorem dX6_add_27 : decode cX6_add 27 = .ok (.iload_n 2, 1) := by decide +kernel
theorem dX6_add_28 : decode cX6_add 28 = .ok (.iastore, 1) := by decide +kernel
theorem dX6_add_29 : decode cX6_add 29 = .ok (.aload_n 0, 1) := by decide +kernel
theorem dX6_add_30 : decode cX6_add 30 = .ok (.getfield 18, 3) := by decide +kernel
theorem dX6_add_33 : decode cX6_add 33 = .ok (.aload_n 0, 1) := by decide +kernel
theorem dX6_add_34 : decode cX6_add 34 = .ok (.getfield 24, 3) := by decide +kernel
theorem dX6_add_37 : decode cX6_add 37 = .ok (.iload_n 3, 1) := by decide +kernel
theorem dX6_add_38 : decode cX6_add 38 = .ok (.iastore, 1) := by decide +kernel
theorem dX6_add_39 : decode cX6_add 39 = .ok (.aload_n 0, 1) := by decide +kernel
theorem dX6_add_40 : decode cX6_add 40 = .ok (.getfield 21, 3) := by decide +kernel
theorem dX6_add_43 : decode cX6_add 43 = .ok (.aload_n 0, 1) := by decide +kernel
theorem dX6_add_44 : decode cX6_add 44 = .ok (.getfield 24, 3) := by decide +kernel
theorem dX6_add_47 : decode cX6_add 47 = .ok (.iload 4, 2) := by decide +kernel
theorem dX6_add_49 : decode cX6_add 49 = .ok (.iastore, 1) := by decide +kernel
theorem dX6_add_50 : decode cX6_add 50 = .ok (.aload_n 0, 1) := by decide +kernel
theorem dX6_add_51 : decode cX6_add 51 = .ok (.dup, 1) := by decide +kernel
theorem dX6_add_52 : decode cX6_add 52 = .ok (.getfield 24, 3) := by decide +kernel
theorem dX6_add_55 : decode cX6_add 55 = .ok (.iconst 1, 1) := by decide +kernel
theorem dX6_add_56 : decode cX6_add 56 = .ok (.iadd, 1) := by decide +kernel
theorem dX6_add_57 : decode cX6_add 57 = .ok (.putfield 24, 3) := by decide +kernel
theorem dX6_add_60 : decode cX6_add 60 = .ok (.return_, 1) := by decide +kernel
theorem dX6_staysOpen_0 : decode cX6_staysOpen 0 = .ok (.aload_n 0, 1) := by decide +kernel
theorem dX6_staysOpen_1 : decode cX6_staysOpen 1 = .ok (.iload_n 1, 1) := by decide +kernel
theorem dX6_staysOpen_2 : decode cX6_staysOpen 2 = .ok (.invokevirtual 28, 3) := by decide +kernel
theorem dX6_staysOpen_5 : decode cX6_staysOpen 5 = .ok (.ifCond .eq 13, 3) := by decide +kernel
theorem dX6_staysOpen_8 : decode cX6_staysOpen 8 = .ok (.aload_n 0, 1) := by decide +kernel
theorem dX6_staysOpen_9 : decode cX6_staysOpen 9 = .ok (.getfield 15, 3) := by decide +kernel
theorem dX6_staysOpen_12 : decode cX6_staysOpen 12 = .ok (.iload_n 1, 1) := by decide +kernel
theorem dX6_staysOpen_13 : decode cX6_staysOpen 13 = .ok (.iaload, 1) := by decide +kernel
theorem dX6_staysOpen_14 : decode cX6_staysOpen 14 = .ok (.iconst 1, 1) := by decide +kernel
theorem dX6_staysOpen_15 : decode cX6_staysOpen 15 = .ok (.if_icmp .ge 5, 3) := by decide +kernel
theorem dX6_staysOpen_18 : decode cX6_staysOpen 18 = .ok (.iconst 0, 1) := by decide +kernel
theorem dX6_staysOpen_19 : decode cX6_staysOpen 19 = .ok (.ireturn, 1) := by decide +kernel
theorem dX6_staysOpen_20 : decode cX6_staysOpen 20 = .ok (.aload_n 0, 1) := by decide +kernel
theorem dX6_staysOpen_21 : decode cX6_staysOpen 21 = .ok (.getfield 21, 3) := by decide +kernel
theorem dX6_staysOpen_24 : decode cX6_staysOpen 24 = .ok (.iload_n 1, 1) := by decide +kernel
theorem dX6_staysOpen_25 : decode cX6_staysOpen 25 = .ok (.iaload, 1) := by decide +kernel
theorem dX6_staysOpen_26 : decode cX6_staysOpen 26 = .ok (.aload_n 0, 1) := by decide +kernel
theorem dX6_staysOpen_27 : decode cX6_staysOpen 27 = .ok (.getfield 15, 3) := by decide +kernel
theorem dX6_staysOpen_30 : decode cX6_staysOpen 30 = .ok (.iload_n 1, 1) := by decide +kernel
theorem dX6_staysOpen_31 : decode cX6_staysOpen 31 = .ok (.iaload, 1) := by decide +kernel
theorem dX6_staysOpen_32 : decode cX6_staysOpen 32 = .ok (.if_icmp .lt 6, 3) := by decide +kernel
theorem dX6_staysOpen_35 : decode cX6_staysOpen 35 = .ok (.ldc 32, 2) := by decide +kernel
theorem dX6_staysOpen_37 : decode cX6_staysOpen 37 = .ok (.ireturn, 1) := by decide +kernel
theorem dX6_staysOpen_38 : decode cX6_staysOpen 38 = .ok (.iconst 0, 1) := by decide +kernel
theorem dX6_staysOpen_39 : decode cX6_staysOpen 39 = .ok (.aload_n 0, 1) := by decide +kernel
theorem dX6_staysOpen_40 : decode cX6_staysOpen 40 = .ok (.getfield 21, 3) := by decide +kernel
theorem dX6_staysOpen_43 : decode cX6_staysOpen 43 = .ok (.iload_n 1, 1) := by decide +kernel
theorem dX6_staysOpen_44 : decode cX6_staysOpen 44 = .ok (.iaload, 1) := by decide +kernel
theorem dX6_staysOpen_45 : decode cX6_staysOpen 45 = .ok (.iload_n 2, 1) := by decide +kernel
theorem dX6_staysOpen_46 : decode cX6_staysOpen 46 = .ok (.aload_n 0, 1) := by decide +kernel
theorem dX6_staysOpen_47 : decode cX6_staysOpen 47 = .ok (.getfield 18, 3) := by decide +kernel
theorem dX6_staysOpen_50 : decode cX6_staysOpen 50 = .ok (.iload_n 1, 1) := by decide +kernel
theorem dX6_staysOpen_51 : decode cX6_staysOpen 51 = .ok (.iaload, 1) := by decide +kernel
theorem dX6_staysOpen_52 : decode cX6_staysOpen 52 = .ok (.isub, 1) := by decide +kernel
theorem dX6_staysOpen_53 : decode cX6_staysOpen 53 = .ok (.aload_n 0, 1) := by decide +kernel
theorem dX6_staysOpen_54 : decode cX6_staysOpen 54 = .ok (.getfield 15, 3) := by decide +kernel
theorem dX6_staysOpen_57 : decode cX6_staysOpen 57 = .ok (.iload_n 1, 1) := by decide +kernel
theorem dX6_staysOpen_58 : decode cX6_staysOpen 58 = .ok (.iaload, 1) := by decide +kernel
theorem dX6_staysOpen_59 : decode cX6_staysOpen 59 = .ok (.invokestatic 33, 3) := by decide +kernel
theorem dX6_staysOpen_62 : decode cX6_staysOpen 62 = .ok (.isub, 1) := by decide +kernel
theorem dX6_staysOpen_63 : decode cX6_staysOpen 63 = .ok (.invokestatic 39, 3) := by decide +kernel
theorem dX6_staysOpen_66 : decode cX6_staysOpen 66 = .ok (.ireturn, 1) := by decide +kernel
theorem dX6_staysShut_0 : decode cX6_staysShut 0 = .ok (.aload_n 0, 1) := by decide +kernel
theorem dX6_staysShut_1 : decode cX6_staysShut 1 = .ok (.iload_n 1, 1) := by decide +kernel
theorem dX6_staysShut_2 : decode cX6_staysShut 2 = .ok (.iload_n 2, 1) := by decide +kernel
theorem dX6_staysShut_3 : decode cX6_staysShut 3 = .ok (.invokevirtual 42, 3) := by decide +kernel
theorem dX6_staysShut_6 : decode cX6_staysShut 6 = .ok (.ifCond .le 5, 3) := by decide +kernel
theorem dX6_staysShut_9 : decode cX6_staysShut 9 = .ok (.iconst 0, 1) := by decide +kernel
theorem dX6_staysShut_10 : decode cX6_staysShut 10 = .ok (.ireturn, 1) := by decide +kernel
theorem dX6_staysShut_11 : decode cX6_staysShut 11 = .ok (.aload_n 0, 1) := by decide +kernel
theorem dX6_staysShut_12 : decode cX6_staysShut 12 = .ok (.iload_n 1, 1) := by decide +kernel
theorem dX6_staysShut_13 : decode cX6_staysShut 13 = .ok (.invokevirtual 28, 3) := by decide +kernel
theorem dX6_staysShut_16 : decode cX6_staysShut 16 = .ok (.ifCond .eq 39, 3) := by decide +kernel
theorem dX6_staysShut_19 : decode cX6_staysShut 19 = .ok (.aload_n 0, 1) := by decide +kernel
theorem dX6_staysShut_20 : decode cX6_staysShut 20 = .ok (.getfield 15, 3) := by decide +kernel
theorem dX6_staysShut_23 : decode cX6_staysShut 23 = .ok (.iload_n 1, 1) := by decide +kernel
theorem dX6_staysShut_24 : decode cX6_staysShut 24 = .ok (.iaload, 1) := by decide +kernel
theorem dX6_staysShut_25 : decode cX6_staysShut 25 = .ok (.ifCond .le 30, 3) := by decide +kernel
theorem dX6_staysShut_28 : decode cX6_staysShut 28 = .ok (.aload_n 0, 1) := by decide +kernel
theorem dX6_staysShut_29 : decode cX6_staysShut 29 = .ok (.getfield 15, 3) := by decide +kernel
theorem dX6_staysShut_32 : decode cX6_staysShut 32 = .ok (.iload_n 1, 1) := by decide +kernel
theorem dX6_staysShut_33 : decode cX6_staysShut 33 = .ok (.iaload, 1) := by decide +kernel
theorem dX6_staysShut_34 : decode cX6_staysShut 34 = .ok (.iload_n 2, 1) := by decide +kernel
theorem dX6_staysShut_35 : decode cX6_staysShut 35 = .ok (.aload_n 0, 1) := by decide +kernel
theorem dX6_staysShut_36 : decode cX6_staysShut 36 = .ok (.getfield 18, 3) := by decide +kernel
theorem dX6_staysShut_39 : decode cX6_staysShut 39 = .ok (.iload_n 1, 1) := by decide +kernel
theorem dX6_staysShut_40 : decode cX6_staysShut 40 = .ok (.iaload, 1) := by decide +kernel
theorem dX6_staysShut_41 : decode cX6_staysShut 41 = .ok (.isub, 1) := by decide +kernel
theorem dX6_staysShut_42 : decode cX6_staysShut 42 = .ok (.aload_n 0, 1) := by decide +kernel
theorem dX6_staysShut_43 : decode cX6_staysShut 43 = .ok (.getfield 15, 3) := by decide +kernel
theorem dX6_staysShut_46 : decode cX6_staysShut 46 = .ok (.iload_n 1, 1) := by decide +kernel
theorem dX6_staysShut_47 : decode cX6_staysShut 47 = .ok (.iaload, 1) := by decide +kernel
theorem dX6_staysShut_48 : decode cX6_staysShut 48 = .ok (.invokestatic 33, 3) := by decide +kernel
theorem dX6_staysShut_51 : decode cX6_staysShut 51 = .ok (.isub, 1) := by decide +kernel
theorem dX6_staysShut_52 : decode cX6_staysShut 52 = .ok (.goto 4, 3) := by decide +kernel
theorem dX6_staysShut_55 : decode cX6_staysShut 55 = .ok (.iconst 1, 1) := by decide +kernel
theorem dX6_staysShut_56 : decode cX6_staysShut 56 = .ok (.ireturn, 1) := by decide +kernel
theorem dX6_openSet_0 : decode cX6_openSet 0 = .ok (.iconst 0, 1) := by decide +kernel
theorem dX6_openSet_1 : decode cX6_openSet 1 = .ok (.istore_n 2, 1) := by decide +kernel
theorem dX6_openSet_2 : decode cX6_openSet 2 = .ok (.iconst 0, 1) := by decide +kernel
theorem dX6_openSet_3 : decode cX6_openSet 3 = .ok (.istore_n 3, 1) := by decide +kernel
theorem dX6_openSet_4 : decode cX6_openSet 4 = .ok (.iload_n 3, 1) := by decide +kernel
theorem dX6_openSet_5 : decode cX6_openSet 5 = .ok (.aload_n 0, 1) := by decide +kernel
theorem dX6_openSet_6 : decode cX6_openSet 6 = .ok (.getfield 24, 3) := by decide +kernel
theorem dX6_openSet_9 : decode cX6_openSet 9 = .ok (.if_icmp .ge 24, 3) := by decide +kernel
theorem dX6_openSet_12 : decode cX6_openSet 12 = .ok (.aload_n 0, 1) := by decide +kernel
theorem dX6_openSet_13 : decode cX6_openSet 13 = .ok (.iload_n 3, 1) := by decide +kernel
theorem dX6_openSet_14 : decode cX6_openSet 14 = .ok (.iload_n 1, 1) := by decide +kernel
theorem dX6_openSet_15 : decode cX6_openSet 15 = .ok (.invokevirtual 42, 3) := by decide +kernel
theorem dX6_openSet_18 : decode cX6_openSet 18 = .ok (.ifCond .le 9, 3) := by decide +kernel
theorem dX6_openSet_21 : decode cX6_openSet 21 = .ok (.iload_n 2, 1) := by decide +kernel
theorem dX6_openSet_22 : decode cX6_openSet 22 = .ok (.iconst 1, 1) := by decide +kernel
theorem dX6_openSet_23 : decode cX6_openSet 23 = .ok (.iload_n 3, 1) := by decide +kernel
theorem dX6_openSet_24 : decode cX6_openSet 24 = .ok (.ishl, 1) := by decide +kernel
theorem dX6_openSet_25 : decode cX6_openSet 25 = .ok (.ior, 1) := by decide +kernel
theorem dX6_openSet_26 : decode cX6_openSet 26 = .ok (.istore_n 2, 1) := by decide +kernel
theorem dX6_openSet_27 : decode cX6_openSet 27 = .ok (.iinc 3 1, 3) := by decide +kernel
theorem dX6_openSet_30 : decode cX6_openSet 30 = .ok (.goto (-26), 3) := by decide +kernel
theorem dX6_openSet_33 : decode cX6_openSet 33 = .ok (.iload_n 2, 1) := by decide +kernel
theorem dX6_openSet_34 : decode cX6_openSet 34 = .ok (.ireturn, 1) := by decide +kernel
theorem dX6_letsThrough_0 : decode cX6_letsThrough 0 = .ok (.iconst 0, 1) := by decide +kernel
theorem dX6_letsThrough_1 : decode cX6_letsThrough 1 = .ok (.istore_n 3, 1) := by decide +kernel
theorem dX6_letsThrough_2 : decode cX6_letsThrough 2 = .ok (.iload_n 3, 1) := by decide +kernel
theorem dX6_letsThrough_3 : decode cX6_letsThrough 3 = .ok (.aload_n 0, 1) := by decide +kernel
theorem dX6_letsThrough_4 : decode cX6_letsThrough 4 = .ok (.getfield 24, 3) := by decide +kernel
theorem dX6_letsThrough_7 : decode cX6_letsThrough 7 = .ok (.if_icmp .ge 30, 3) := by decide +kernel
theorem dX6_letsThrough_10 : decode cX6_letsThrough 10 = .ok (.aload_n 0, 1) := by decide +kernel
theorem dX6_letsThrough_11 : decode cX6_letsThrough 11 = .ok (.getfield 9, 3) := by decide +kernel
theorem dX6_letsThrough_14 : decode cX6_letsThrough 14 = .ok (.iload_n 3, 1) := by decide +kernel
theorem dX6_letsThrough_15 : decode cX6_letsThrough 15 = .ok (.iaload, 1) := by decide +kernel
theorem dX6_letsThrough_16 : decode cX6_letsThrough 16 = .ok (.iload_n 1, 1) := by decide +kernel
theorem dX6_letsThrough_17 : decode cX6_letsThrough 17 = .ok (.if_icmp .ne 14, 3) := by decide +kernel
theorem dX6_letsThrough_20 : decode cX6_letsThrough 20 = .ok (.aload_n 0, 1) := by decide +kernel
theorem dX6_letsThrough_21 : decode cX6_letsThrough 21 = .ok (.iload_n 3, 1) := by decide +kernel
theorem dX6_letsThrough_22 : decode cX6_letsThrough 22 = .ok (.iload_n 2, 1) := by decide +kernel
theorem dX6_letsThrough_23 : decode cX6_letsThrough 23 = .ok (.invokevirtual 42, 3) := by decide +kernel
theorem dX6_letsThrough_26 : decode cX6_letsThrough 26 = .ok (.ifCond .ne 5, 3) := by decide +kernel
theorem dX6_letsThrough_29 : decode cX6_letsThrough 29 = .ok (.iconst 0, 1) := by decide +kernel
theorem dX6_letsThrough_30 : decode cX6_letsThrough 30 = .ok (.ireturn, 1) := by decide +kernel
theorem dX6_letsThrough_31 : decode cX6_letsThrough 31 = .ok (.iinc 3 1, 3) := by decide +kernel
theorem dX6_letsThrough_34 : decode cX6_letsThrough 34 = .ok (.goto (-32), 3) := by decide +kernel
theorem dX6_letsThrough_37 : decode cX6_letsThrough 37 = .ok (.iconst 1, 1) := by decide +kernel
theorem dX6_letsThrough_38 : decode cX6_letsThrough 38 = .ok (.ireturn, 1) := by decide +kernel
theorem dX6_roundOf_0 : decode cX6_roundOf 0 = .ok (.iconst 1, 1) := by decide +kernel
theorem dX6_roundOf_1 : decode cX6_roundOf 1 = .ok (.istore_n 2, 1) := by decide +kernel
theorem dX6_roundOf_2 : decode cX6_roundOf 2 = .ok (.iconst 0, 1) := by decide +kernel
theorem dX6_roundOf_3 : decode cX6_roundOf 3 = .ok (.istore_n 3, 1) := by decide +kernel
theorem dX6_roundOf_4 : decode cX6_roundOf 4 = .ok (.iload_n 3, 1) := by decide +kernel
theorem dX6_roundOf_5 : decode cX6_roundOf 5 = .ok (.aload_n 0, 1) := by decide +kernel
theorem dX6_roundOf_6 : decode cX6_roundOf 6 = .ok (.getfield 24, 3) := by decide +kernel
theorem dX6_roundOf_9 : decode cX6_roundOf 9 = .ok (.if_icmp .ge 29, 3) := by decide +kernel
theorem dX6_roundOf_12 : decode cX6_roundOf 12 = .ok (.iload_n 1, 1) := by decide +kernel
theorem dX6_roundOf_13 : decode cX6_roundOf 13 = .ok (.iload_n 3, 1) := by decide +kernel
theorem dX6_roundOf_14 : decode cX6_roundOf 14 = .ok (.ishr, 1) := by decide +kernel
theorem dX6_roundOf_15 : decode cX6_roundOf 15 = .ok (.iconst 1, 1) := by decide +kernel
theorem dX6_roundOf_16 : decode cX6_roundOf 16 = .ok (.iand, 1) := by decide +kernel
theorem dX6_roundOf_17 : decode cX6_roundOf 17 = .ok (.iconst 1, 1) := by decide +kernel
theorem dX6_roundOf_18 : decode cX6_roundOf 18 = .ok (.if_icmp .ne 14, 3) := by decide +kernel
theorem dX6_roundOf_21 : decode cX6_roundOf 21 = .ok (.iload_n 2, 1) := by decide +kernel
theorem dX6_roundOf_22 : decode cX6_roundOf 22 = .ok (.aload_n 0, 1) := by decide +kernel
theorem dX6_roundOf_23 : decode cX6_roundOf 23 = .ok (.getfield 15, 3) := by decide +kernel
theorem dX6_roundOf_26 : decode cX6_roundOf 26 = .ok (.iload_n 3, 1) := by decide +kernel
theorem dX6_roundOf_27 : decode cX6_roundOf 27 = .ok (.iaload, 1) := by decide +kernel
theorem dX6_roundOf_28 : decode cX6_roundOf 28 = .ok (.invokestatic 45, 3) := by decide +kernel
theorem dX6_roundOf_31 : decode cX6_roundOf 31 = .ok (.istore_n 2, 1) := by decide +kernel
theorem dX6_roundOf_32 : decode cX6_roundOf 32 = .ok (.iinc 3 1, 3) := by decide +kernel
theorem dX6_roundOf_35 : decode cX6_roundOf 35 = .ok (.goto (-31), 3) := by decide +kernel
theorem dX6_roundOf_38 : decode cX6_roundOf 38 = .ok (.iload_n 2, 1) := by decide +kernel
theorem dX6_roundOf_39 : decode cX6_roundOf 39 = .ok (.ireturn, 1) := by decide +kernel
theorem dX6_allOpenFor_0 : decode cX6_allOpenFor 0 = .ok (.ldc 32, 2) := by decide +kernel
theorem dX6_allOpenFor_2 : decode cX6_allOpenFor 2 = .ok (.istore_n 3, 1) := by decide +kernel
theorem dX6_allOpenFor_3 : decode cX6_allOpenFor 3 = .ok (.iconst 0, 1) := by decide +kernel
theorem dX6_allOpenFor_4 : decode cX6_allOpenFor 4 = .ok (.istore 4, 2) := by decide +kernel
theorem dX6_allOpenFor_6 : decode cX6_allOpenFor 6 = .ok (.iload 4, 2) := by decide +kernel
theorem dX6_allOpenFor_8 : decode cX6_allOpenFor 8 = .ok (.aload_n 0, 1) := by decide +kernel
theorem dX6_allOpenFor_9 : decode cX6_allOpenFor 9 = .ok (.getfield 24, 3) := by decide +kernel
theorem dX6_allOpenFor_12 : decode cX6_allOpenFor 12 = .ok (.if_icmp .ge 31, 3) := by decide +kernel
theorem dX6_allOpenFor_15 : decode cX6_allOpenFor 15 = .ok (.iload_n 1, 1) := by decide +kernel
theorem dX6_allOpenFor_16 : decode cX6_allOpenFor 16 = .ok (.iload 4, 2) := by decide +kernel
theorem dX6_allOpenFor_18 : decode cX6_allOpenFor 18 = .ok (.ishr, 1) := by decide +kernel
theorem dX6_allOpenFor_19 : decode cX6_allOpenFor 19 = .ok (.iconst 1, 1) := by decide +kernel
theorem dX6_allOpenFor_20 : decode cX6_allOpenFor 20 = .ok (.iand, 1) := by decide +kernel
theorem dX6_allOpenFor_21 : decode cX6_allOpenFor 21 = .ok (.iconst 1, 1) := by decide +kernel
theorem dX6_allOpenFor_22 : decode cX6_allOpenFor 22 = .ok (.if_icmp .ne 15, 3) := by decide +kernel
theorem dX6_allOpenFor_25 : decode cX6_allOpenFor 25 = .ok (.iload_n 3, 1) := by decide +kernel
theorem dX6_allOpenFor_26 : decode cX6_allOpenFor 26 = .ok (.aload_n 0, 1) := by decide +kernel
theorem dX6_allOpenFor_27 : decode cX6_allOpenFor 27 = .ok (.iload 4, 2) := by decide +kernel
theorem dX6_allOpenFor_29 : decode cX6_allOpenFor 29 = .ok (.iload_n 2, 1) := by decide +kernel
theorem dX6_allOpenFor_30 : decode cX6_allOpenFor 30 = .ok (.invokevirtual 42, 3) := by decide +kernel
theorem dX6_allOpenFor_33 : decode cX6_allOpenFor 33 = .ok (.invokestatic 48, 3) := by decide +kernel
theorem dX6_allOpenFor_36 : decode cX6_allOpenFor 36 = .ok (.istore_n 3, 1) := by decide +kernel
theorem dX6_allOpenFor_37 : decode cX6_allOpenFor 37 = .ok (.iinc 4 1, 3) := by decide +kernel
theorem dX6_allOpenFor_40 : decode cX6_allOpenFor 40 = .ok (.goto (-34), 3) := by decide +kernel
theorem dX6_allOpenFor_43 : decode cX6_allOpenFor 43 = .ok (.iload_n 3, 1) := by decide +kernel
theorem dX6_allOpenFor_44 : decode cX6_allOpenFor 44 = .ok (.ireturn, 1) := by decide +kernel
theorem dX6_someShutFor_0 : decode cX6_someShutFor 0 = .ok (.iconst 0, 1) := by decide +kernel
theorem dX6_someShutFor_1 : decode cX6_someShutFor 1 = .ok (.istore_n 3, 1) := by decide +kernel
theorem dX6_someShutFor_2 : decode cX6_someShutFor 2 = .ok (.iconst 0, 1) := by decide +kernel
theorem dX6_someShutFor_3 : decode cX6_someShutFor 3 = .ok (.istore 4, 2) := by decide +kernel
theorem dX6_someShutFor_5 : decode cX6_someShutFor 5 = .ok (.iload 4, 2) := by decide +kernel
theorem dX6_someShutFor_7 : decode cX6_someShutFor 7 = .ok (.aload_n 0, 1) := by decide +kernel
theorem dX6_someShutFor_8 : decode cX6_someShutFor 8 = .ok (.getfield 24, 3) := by decide +kernel
theorem dX6_someShutFor_11 : decode cX6_someShutFor 11 = .ok (.if_icmp .ge 31, 3) := by decide +kernel
theorem dX6_someShutFor_14 : decode cX6_someShutFor 14 = .ok (.iload_n 1, 1) := by decide +kernel
theorem dX6_someShutFor_15 : decode cX6_someShutFor 15 = .ok (.iload 4, 2) := by decide +kernel
theorem dX6_someShutFor_17 : decode cX6_someShutFor 17 = .ok (.ishr, 1) := by decide +kernel
theorem dX6_someShutFor_18 : decode cX6_someShutFor 18 = .ok (.iconst 1, 1) := by decide +kernel
theorem dX6_someShutFor_19 : decode cX6_someShutFor 19 = .ok (.iand, 1) := by decide +kernel
theorem dX6_someShutFor_20 : decode cX6_someShutFor 20 = .ok (.iconst 1, 1) := by decide +kernel
theorem dX6_someShutFor_21 : decode cX6_someShutFor 21 = .ok (.if_icmp .ne 15, 3) := by decide +kernel
theorem dX6_someShutFor_24 : decode cX6_someShutFor 24 = .ok (.iload_n 3, 1) := by decide +kernel
theorem dX6_someShutFor_25 : decode cX6_someShutFor 25 = .ok (.aload_n 0, 1) := by decide +kernel
theorem dX6_someShutFor_26 : decode cX6_someShutFor 26 = .ok (.iload 4, 2) := by decide +kernel
theorem dX6_someShutFor_28 : decode cX6_someShutFor 28 = .ok (.iload_n 2, 1) := by decide +kernel
theorem dX6_someShutFor_29 : decode cX6_someShutFor 29 = .ok (.invokevirtual 51, 3) := by decide +kernel
theorem dX6_someShutFor_32 : decode cX6_someShutFor 32 = .ok (.invokestatic 39, 3) := by decide +kernel
theorem dX6_someShutFor_35 : decode cX6_someShutFor 35 = .ok (.istore_n 3, 1) := by decide +kernel
theorem dX6_someShutFor_36 : decode cX6_someShutFor 36 = .ok (.iinc 4 1, 3) := by decide +kernel
theorem dX6_someShutFor_39 : decode cX6_someShutFor 39 = .ok (.goto (-34), 3) := by decide +kernel
theorem dX6_someShutFor_42 : decode cX6_someShutFor 42 = .ok (.iload_n 3, 1) := by decide +kernel
theorem dX6_someShutFor_43 : decode cX6_someShutFor 43 = .ok (.ireturn, 1) := by decide +kernel
theorem dX6_waitFor_0 : decode cX6_waitFor 0 = .ok (.aload_n 0, 1) := by decide +kernel
theorem dX6_waitFor_1 : decode cX6_waitFor 1 = .ok (.iload_n 1, 1) := by decide +kernel
theorem dX6_waitFor_2 : decode cX6_waitFor 2 = .ok (.invokevirtual 54, 3) := by decide +kernel
theorem dX6_waitFor_5 : decode cX6_waitFor 5 = .ok (.istore_n 3, 1) := by decide +kernel
theorem dX6_waitFor_6 : decode cX6_waitFor 6 = .ok (.iconst 0, 1) := by decide +kernel
theorem dX6_waitFor_7 : decode cX6_waitFor 7 = .ok (.istore 4, 2) := by decide +kernel
theorem dX6_waitFor_9 : decode cX6_waitFor 9 = .ok (.iload 4, 2) := by decide +kernel
theorem dX6_waitFor_11 : decode cX6_waitFor 11 = .ok (.iload_n 3, 1) := by decide +kernel
theorem dX6_waitFor_12 : decode cX6_waitFor 12 = .ok (.if_icmp .ge 36, 3) := by decide +kernel
theorem dX6_waitFor_15 : decode cX6_waitFor 15 = .ok (.aload_n 0, 1) := by decide +kernel
theorem dX6_waitFor_16 : decode cX6_waitFor 16 = .ok (.iload_n 1, 1) := by decide +kernel
theorem dX6_waitFor_17 : decode cX6_waitFor 17 = .ok (.iload_n 2, 1) := by decide +kernel
theorem dX6_waitFor_18 : decode cX6_waitFor 18 = .ok (.iload 4, 2) := by decide +kernel
theorem dX6_waitFor_20 : decode cX6_waitFor 20 = .ok (.iadd, 1) := by decide +kernel
theorem dX6_waitFor_21 : decode cX6_waitFor 21 = .ok (.invokevirtual 58, 3) := by decide +kernel
theorem dX6_waitFor_24 : decode cX6_waitFor 24 = .ok (.istore 5, 2) := by decide +kernel
theorem dX6_waitFor_26 : decode cX6_waitFor 26 = .ok (.iload 5, 2) := by decide +kernel
theorem dX6_waitFor_28 : decode cX6_waitFor 28 = .ok (.ifCond .ne 6, 3) := by decide +kernel
theorem dX6_waitFor_31 : decode cX6_waitFor 31 = .ok (.iload 4, 2) := by decide +kernel
theorem dX6_waitFor_33 : decode cX6_waitFor 33 = .ok (.ireturn, 1) := by decide +kernel
theorem dX6_waitFor_34 : decode cX6_waitFor 34 = .ok (.iload 4, 2) := by decide +kernel
theorem dX6_waitFor_36 : decode cX6_waitFor 36 = .ok (.iconst 1, 1) := by decide +kernel
theorem dX6_waitFor_37 : decode cX6_waitFor 37 = .ok (.iload 5, 2) := by decide +kernel
theorem dX6_waitFor_39 : decode cX6_waitFor 39 = .ok (.invokestatic 39, 3) := by decide +kernel
theorem dX6_waitFor_42 : decode cX6_waitFor 42 = .ok (.iadd, 1) := by decide +kernel
theorem dX6_waitFor_43 : decode cX6_waitFor 43 = .ok (.istore 4, 2) := by decide +kernel
theorem dX6_waitFor_45 : decode cX6_waitFor 45 = .ok (.goto (-36), 3) := by decide +kernel
theorem dX6_waitFor_48 : decode cX6_waitFor 48 = .ok (.iconst (-1), 1) := by decide +kernel
theorem dX6_waitFor_49 : decode cX6_waitFor 49 = .ok (.ireturn, 1) := by decide +kernel
theorem dX6_longestRun_0 : decode cX6_longestRun 0 = .ok (.aload_n 0, 1) := by decide +kernel
theorem dX6_longestRun_1 : decode cX6_longestRun 1 = .ok (.iload_n 1, 1) := by decide +kernel
theorem dX6_longestRun_2 : decode cX6_longestRun 2 = .ok (.invokevirtual 54, 3) := by decide +kernel
theorem dX6_longestRun_5 : decode cX6_longestRun 5 = .ok (.istore_n 2, 1) := by decide +kernel
theorem dX6_longestRun_6 : decode cX6_longestRun 6 = .ok (.iconst 0, 1) := by decide +kernel
theorem dX6_longestRun_7 : decode cX6_longestRun 7 = .ok (.istore_n 3, 1) := by decide +kernel
theorem dX6_longestRun_8 : decode cX6_longestRun 8 = .ok (.iconst 0, 1) := by decide +kernel
theorem dX6_longestRun_9 : decode cX6_longestRun 9 = .ok (.istore 4, 2) := by decide +kernel
theorem dX6_longestRun_11 : decode cX6_longestRun 11 = .ok (.iload 4, 2) := by decide +kernel
theorem dX6_longestRun_13 : decode cX6_longestRun 13 = .ok (.iload_n 2, 1) := by decide +kernel
theorem dX6_longestRun_14 : decode cX6_longestRun 14 = .ok (.if_icmp .ge 57, 3) := by decide +kernel
theorem dX6_longestRun_17 : decode cX6_longestRun 17 = .ok (.aload_n 0, 1) := by decide +kernel
theorem dX6_longestRun_18 : decode cX6_longestRun 18 = .ok (.iload_n 1, 1) := by decide +kernel
theorem dX6_longestRun_19 : decode cX6_longestRun 19 = .ok (.iload 4, 2) := by decide +kernel
theorem dX6_longestRun_21 : decode cX6_longestRun 21 = .ok (.invokevirtual 61, 3) := by decide +kernel
theorem dX6_longestRun_24 : decode cX6_longestRun 24 = .ok (.istore 5, 2) := by decide +kernel
theorem dX6_longestRun_26 : decode cX6_longestRun 26 = .ok (.iload 5, 2) := by decide +kernel
theorem dX6_longestRun_28 : decode cX6_longestRun 28 = .ok (.ldc 32, 2) := by decide +kernel
theorem dX6_longestRun_30 : decode cX6_longestRun 30 = .ok (.if_icmp .lt 5, 3) := by decide +kernel
theorem dX6_longestRun_33 : decode cX6_longestRun 33 = .ok (.iconst (-1), 1) := by decide +kernel
theorem dX6_longestRun_34 : decode cX6_longestRun 34 = .ok (.ireturn, 1) := by decide +kernel
theorem dX6_longestRun_35 : decode cX6_longestRun 35 = .ok (.iload_n 3, 1) := by decide +kernel
theorem dX6_longestRun_36 : decode cX6_longestRun 36 = .ok (.iload 5, 2) := by decide +kernel
theorem dX6_longestRun_38 : decode cX6_longestRun 38 = .ok (.invokestatic 39, 3) := by decide +kernel
theorem dX6_longestRun_41 : decode cX6_longestRun 41 = .ok (.istore_n 3, 1) := by decide +kernel
theorem dX6_longestRun_42 : decode cX6_longestRun 42 = .ok (.iload 4, 2) := by decide +kernel
theorem dX6_longestRun_44 : decode cX6_longestRun 44 = .ok (.iconst 1, 1) := by decide +kernel
theorem dX6_longestRun_45 : decode cX6_longestRun 45 = .ok (.iload 5, 2) := by decide +kernel
theorem dX6_longestRun_47 : decode cX6_longestRun 47 = .ok (.ifCond .le 8, 3) := by decide +kernel
theorem dX6_longestRun_50 : decode cX6_longestRun 50 = .ok (.iload 5, 2) := by decide +kernel
theorem dX6_longestRun_52 : decode cX6_longestRun 52 = .ok (.goto 10, 3) := by decide +kernel
theorem dX6_longestRun_55 : decode cX6_longestRun 55 = .ok (.aload_n 0, 1) := by decide +kernel
theorem dX6_longestRun_56 : decode cX6_longestRun 56 = .ok (.iload_n 1, 1) := by decide +kernel
theorem dX6_longestRun_57 : decode cX6_longestRun 57 = .ok (.iload 4, 2) := by decide +kernel
theorem dX6_longestRun_59 : decode cX6_longestRun 59 = .ok (.invokevirtual 58, 3) := by decide +kernel
theorem dX6_longestRun_62 : decode cX6_longestRun 62 = .ok (.invokestatic 39, 3) := by decide +kernel
theorem dX6_longestRun_65 : decode cX6_longestRun 65 = .ok (.iadd, 1) := by decide +kernel
theorem dX6_longestRun_66 : decode cX6_longestRun 66 = .ok (.istore 4, 2) := by decide +kernel
theorem dX6_longestRun_68 : decode cX6_longestRun 68 = .ok (.goto (-57), 3) := by decide +kernel
theorem dX6_longestRun_71 : decode cX6_longestRun 71 = .ok (.iload_n 3, 1) := by decide +kernel
theorem dX6_longestRun_72 : decode cX6_longestRun 72 = .ok (.ireturn, 1) := by decide +kernel
theorem dX7_init_0 : decode cX7_init 0 = .ok (.aload_n 0, 1) := by decide +kernel
theorem dX7_init_1 : decode cX7_init 1 = .ok (.invokespecial 3, 3) := by decide +kernel
theorem dX7_init_4 : decode cX7_init 4 = .ok (.aload_n 0, 1) := by decide +kernel
theorem dX7_init_5 : decode cX7_init 5 = .ok (.bipush 12, 2) := by decide +kernel
theorem dX7_init_7 : decode cX7_init 7 = .ok (.newarray .int, 2) := by decide +kernel
theorem dX7_init_9 : decode cX7_init 9 = .ok (.putfield 9, 3) := by decide +kernel
theorem dX7_init_12 : decode cX7_init 12 = .ok (.aload_n 0, 1) := by decide +kernel
theorem dX7_init_13 : decode cX7_init 13 = .ok (.bipush 12, 2) := by decide +kernel
theorem dX7_init_15 : decode cX7_init 15 = .ok (.newarray .int, 2) := by decide +kernel
theorem dX7_init_17 : decode cX7_init 17 = .ok (.putfield 15, 3) := by decide +kernel
theorem dX7_init_20 : decode cX7_init 20 = .ok (.aload_n 0, 1) := by decide +kernel
theorem dX7_init_21 : decode cX7_init 21 = .ok (.bipush 12, 2) := by decide +kernel
theorem dX7_init_23 : decode cX7_init 23 = .ok (.newarray .int, 2) := by decide +kernel
theorem dX7_init_25 : decode cX7_init 25 = .ok (.putfield 18, 3) := by decide +kernel
