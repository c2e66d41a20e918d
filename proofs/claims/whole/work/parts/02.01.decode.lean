theorem dX7_init_28 : decode cX7_init 28 = .ok (.aload_n 0, 1) := by decide +kernel
theorem dX7_init_29 : decode cX7_init 29 = .ok (.iconst 0, 1) := by decide +kernel
theorem dX7_init_30 : decode cX7_init 30 = .ok (.putfield 21, 3) := by decide +kernel
theorem dX7_init_33 : decode cX7_init 33 = .ok (.return_, 1) := by decide +kernel
theorem dX7_note_0 : decode cX7_note 0 = .ok (.aload_n 0, 1) := by decide +kernel
theorem dX7_note_1 : decode cX7_note 1 = .ok (.getfield 21, 3) := by decide +kernel
theorem dX7_note_4 : decode cX7_note 4 = .ok (.bipush 12, 2) := by decide +kernel
theorem dX7_note_6 : decode cX7_note 6 = .ok (.if_icmp .ge 43, 3) := by decide +kernel
theorem dX7_note_9 : decode cX7_note 9 = .ok (.aload_n 0, 1) := by decide +kernel
theorem dX7_note_10 : decode cX7_note 10 = .ok (.getfield 9, 3) := by decide +kernel
theorem dX7_note_13 : decode cX7_note 13 = .ok (.aload_n 0, 1) := by decide +kernel
theorem dX7_note_14 : decode cX7_note 14 = .ok (.getfield 21, 3) := by decide +kernel
theorem dX7_note_17 : decode cX7_note 17 = .ok (.iload_n 1, 1) := by decide +kernel
theorem dX7_note_18 : decode cX7_note 18 = .ok (.iastore, 1) := by decide +kernel
theorem dX7_note_19 : decode cX7_note 19 = .ok (.aload_n 0, 1) := by decide +kernel
theorem dX7_note_20 : decode cX7_note 20 = .ok (.getfield 15, 3) := by decide +kernel
theorem dX7_note_23 : decode cX7_note 23 = .ok (.aload_n 0, 1) := by decide +kernel
theorem dX7_note_24 : decode cX7_note 24 = .ok (.getfield 21, 3) := by decide +kernel
theorem dX7_note_27 : decode cX7_note 27 = .ok (.iload_n 2, 1) := by decide +kernel
theorem dX7_note_28 : decode cX7_note 28 = .ok (.iastore, 1) := by decide +kernel
theorem dX7_note_29 : decode cX7_note 29 = .ok (.aload_n 0, 1) := by decide +kernel
theorem dX7_note_30 : decode cX7_note 30 = .ok (.getfield 18, 3) := by decide +kernel
theorem dX7_note_33 : decode cX7_note 33 = .ok (.aload_n 0, 1) := by decide +kernel
theorem dX7_note_34 : decode cX7_note 34 = .ok (.getfield 21, 3) := by decide +kernel
theorem dX7_note_37 : decode cX7_note 37 = .ok (.iload_n 3, 1) := by decide +kernel
theorem dX7_note_38 : decode cX7_note 38 = .ok (.iastore, 1) := by decide +kernel
theorem dX7_note_39 : decode cX7_note 39 = .ok (.aload_n 0, 1) := by decide +kernel
theorem dX7_note_40 : decode cX7_note 40 = .ok (.dup, 1) := by decide +kernel
theorem dX7_note_41 : decode cX7_note 41 = .ok (.getfield 21, 3) := by decide +kernel
theorem dX7_note_44 : decode cX7_note 44 = .ok (.iconst 1, 1) := by decide +kernel
theorem dX7_note_45 : decode cX7_note 45 = .ok (.iadd, 1) := by decide +kernel
theorem dX7_note_46 : decode cX7_note 46 = .ok (.putfield 21, 3) := by decide +kernel
theorem dX7_note_49 : decode cX7_note 49 = .ok (.aload_n 0, 1) := by decide +kernel
theorem dX7_note_50 : decode cX7_note 50 = .ok (.getfield 21, 3) := by decide +kernel
theorem dX7_note_53 : decode cX7_note 53 = .ok (.ireturn, 1) := by decide +kernel
theorem dX7_countTurns_0 : decode cX7_countTurns 0 = .ok (.iconst 0, 1) := by decide +kernel
theorem dX7_countTurns_1 : decode cX7_countTurns 1 = .ok (.istore_n 3, 1) := by decide +kernel
theorem dX7_countTurns_2 : decode cX7_countTurns 2 = .ok (.iconst 2, 1) := by decide +kernel
theorem dX7_countTurns_3 : decode cX7_countTurns 3 = .ok (.istore 4, 2) := by decide +kernel
theorem dX7_countTurns_5 : decode cX7_countTurns 5 = .ok (.iload 4, 2) := by decide +kernel
theorem dX7_countTurns_7 : decode cX7_countTurns 7 = .ok (.bipush 12, 2) := by decide +kernel
theorem dX7_countTurns_9 : decode cX7_countTurns 9 = .ok (.if_icmp .gt 41, 3) := by decide +kernel
theorem dX7_countTurns_12 : decode cX7_countTurns 12 = .ok (.iconst 0, 1) := by decide +kernel
theorem dX7_countTurns_13 : decode cX7_countTurns 13 = .ok (.istore 5, 2) := by decide +kernel
theorem dX7_countTurns_15 : decode cX7_countTurns 15 = .ok (.iload 5, 2) := by decide +kernel
theorem dX7_countTurns_17 : decode cX7_countTurns 17 = .ok (.iload 4, 2) := by decide +kernel
theorem dX7_countTurns_19 : decode cX7_countTurns 19 = .ok (.if_icmp .ge 25, 3) := by decide +kernel
theorem dX7_countTurns_22 : decode cX7_countTurns 22 = .ok (.aload_n 0, 1) := by decide +kernel
theorem dX7_countTurns_23 : decode cX7_countTurns 23 = .ok (.aload_n 1, 1) := by decide +kernel
theorem dX7_countTurns_24 : decode cX7_countTurns 24 = .ok (.iload_n 2, 1) := by decide +kernel
theorem dX7_countTurns_25 : decode cX7_countTurns 25 = .ok (.iload 4, 2) := by decide +kernel
theorem dX7_countTurns_27 : decode cX7_countTurns 27 = .ok (.iload 5, 2) := by decide +kernel
theorem dX7_countTurns_29 : decode cX7_countTurns 29 = .ok (.invokevirtual 25, 3) := by decide +kernel
theorem dX7_countTurns_32 : decode cX7_countTurns 32 = .ok (.ifCond .eq 6, 3) := by decide +kernel
theorem dX7_countTurns_35 : decode cX7_countTurns 35 = .ok (.iinc 3 1, 3) := by decide +kernel
theorem dX7_countTurns_38 : decode cX7_countTurns 38 = .ok (.iinc 5 1, 3) := by decide +kernel
theorem dX7_countTurns_41 : decode cX7_countTurns 41 = .ok (.goto (-26), 3) := by decide +kernel
theorem dX7_countTurns_44 : decode cX7_countTurns 44 = .ok (.iinc 4 1, 3) := by decide +kernel
theorem dX7_countTurns_47 : decode cX7_countTurns 47 = .ok (.goto (-42), 3) := by decide +kernel
theorem dX7_countTurns_50 : decode cX7_countTurns 50 = .ok (.iload_n 3, 1) := by decide +kernel
theorem dX7_countTurns_51 : decode cX7_countTurns 51 = .ok (.ireturn, 1) := by decide +kernel
theorem dX7_findTurn_0 : decode cX7_findTurn 0 = .ok (.iconst 0, 1) := by decide +kernel
theorem dX7_findTurn_1 : decode cX7_findTurn 1 = .ok (.istore 4, 2) := by decide +kernel
theorem dX7_findTurn_3 : decode cX7_findTurn 3 = .ok (.iconst 2, 1) := by decide +kernel
theorem dX7_findTurn_4 : decode cX7_findTurn 4 = .ok (.istore 5, 2) := by decide +kernel
theorem dX7_findTurn_6 : decode cX7_findTurn 6 = .ok (.iload 5, 2) := by decide +kernel
theorem dX7_findTurn_8 : decode cX7_findTurn 8 = .ok (.bipush 12, 2) := by decide +kernel
theorem dX7_findTurn_10 : decode cX7_findTurn 10 = .ok (.if_icmp .gt 56, 3) := by decide +kernel
theorem dX7_findTurn_13 : decode cX7_findTurn 13 = .ok (.iconst 0, 1) := by decide +kernel
theorem dX7_findTurn_14 : decode cX7_findTurn 14 = .ok (.istore 6, 2) := by decide +kernel
theorem dX7_findTurn_16 : decode cX7_findTurn 16 = .ok (.iload 6, 2) := by decide +kernel
theorem dX7_findTurn_18 : decode cX7_findTurn 18 = .ok (.iload 5, 2) := by decide +kernel
theorem dX7_findTurn_20 : decode cX7_findTurn 20 = .ok (.if_icmp .ge 40, 3) := by decide +kernel
theorem dX7_findTurn_23 : decode cX7_findTurn 23 = .ok (.aload_n 0, 1) := by decide +kernel
theorem dX7_findTurn_24 : decode cX7_findTurn 24 = .ok (.aload_n 1, 1) := by decide +kernel
theorem dX7_findTurn_25 : decode cX7_findTurn 25 = .ok (.iload_n 2, 1) := by decide +kernel
theorem dX7_findTurn_26 : decode cX7_findTurn 26 = .ok (.iload 5, 2) := by decide +kernel
theorem dX7_findTurn_28 : decode cX7_findTurn 28 = .ok (.iload 6, 2) := by decide +kernel
theorem dX7_findTurn_30 : decode cX7_findTurn 30 = .ok (.invokevirtual 25, 3) := by decide +kernel
theorem dX7_findTurn_33 : decode cX7_findTurn 33 = .ok (.ifCond .eq 21, 3) := by decide +kernel
theorem dX7_findTurn_36 : decode cX7_findTurn 36 = .ok (.iload 4, 2) := by decide +kernel
theorem dX7_findTurn_38 : decode cX7_findTurn 38 = .ok (.iload_n 3, 1) := by decide +kernel
theorem dX7_findTurn_39 : decode cX7_findTurn 39 = .ok (.if_icmp .ne 12, 3) := by decide +kernel
theorem dX7_findTurn_42 : decode cX7_findTurn 42 = .ok (.bipush 100, 2) := by decide +kernel
theorem dX7_findTurn_44 : decode cX7_findTurn 44 = .ok (.iload 5, 2) := by decide +kernel
theorem dX7_findTurn_46 : decode cX7_findTurn 46 = .ok (.imul, 1) := by decide +kernel
theorem dX7_findTurn_47 : decode cX7_findTurn 47 = .ok (.iload 6, 2) := by decide +kernel
theorem dX7_findTurn_49 : decode cX7_findTurn 49 = .ok (.iadd, 1) := by decide +kernel
theorem dX7_findTurn_50 : decode cX7_findTurn 50 = .ok (.ireturn, 1) := by decide +kernel
theorem dX7_findTurn_51 : decode cX7_findTurn 51 = .ok (.iinc 4 1, 3) := by decide +kernel
theorem dX7_findTurn_54 : decode cX7_findTurn 54 = .ok (.iinc 6 1, 3) := by decide +kernel
theorem dX7_findTurn_57 : decode cX7_findTurn 57 = .ok (.goto (-41), 3) := by decide +kernel
theorem dX7_findTurn_60 : decode cX7_findTurn 60 = .ok (.iinc 5 1, 3) := by decide +kernel
theorem dX7_findTurn_63 : decode cX7_findTurn 63 = .ok (.goto (-57), 3) := by decide +kernel
theorem dX7_findTurn_66 : decode cX7_findTurn 66 = .ok (.iconst (-1), 1) := by decide +kernel
theorem dX7_findTurn_67 : decode cX7_findTurn 67 = .ok (.ireturn, 1) := by decide +kernel
theorem dX7_explains_0 : decode cX7_explains 0 = .ok (.aload_n 1, 1) := by decide +kernel
theorem dX7_explains_1 : decode cX7_explains 1 = .ok (.iload_n 2, 1) := by decide +kernel
theorem dX7_explains_2 : decode cX7_explains 2 = .ok (.invokevirtual 29, 3) := by decide +kernel
theorem dX7_explains_5 : decode cX7_explains 5 = .ok (.ifCond .ne 5, 3) := by decide +kernel
theorem dX7_explains_8 : decode cX7_explains 8 = .ok (.iconst 0, 1) := by decide +kernel
theorem dX7_explains_9 : decode cX7_explains 9 = .ok (.ireturn, 1) := by decide +kernel
theorem dX7_explains_10 : decode cX7_explains 10 = .ok (.iconst 0, 1) := by decide +kernel
theorem dX7_explains_11 : decode cX7_explains 11 = .ok (.istore 5, 2) := by decide +kernel
theorem dX7_explains_13 : decode cX7_explains 13 = .ok (.iload 5, 2) := by decide +kernel
theorem dX7_explains_15 : decode cX7_explains 15 = .ok (.aload_n 0, 1) := by decide +kernel
theorem dX7_explains_16 : decode cX7_explains 16 = .ok (.getfield 21, 3) := by decide +kernel
theorem dX7_explains_19 : decode cX7_explains 19 = .ok (.if_icmp .ge 64, 3) := by decide +kernel
theorem dX7_explains_22 : decode cX7_explains 22 = .ok (.aload_n 1, 1) := by decide +kernel
theorem dX7_explains_23 : decode cX7_explains 23 = .ok (.getfield 35, 3) := by decide +kernel
theorem dX7_explains_26 : decode cX7_explains 26 = .ok (.iload_n 2, 1) := by decide +kernel
theorem dX7_explains_27 : decode cX7_explains 27 = .ok (.iaload, 1) := by decide +kernel
theorem dX7_explains_28 : decode cX7_explains 28 = .ok (.aload_n 1, 1) := by decide +kernel
theorem dX7_explains_29 : decode cX7_explains 29 = .ok (.getfield 38, 3) := by decide +kernel
theorem dX7_explains_32 : decode cX7_explains 32 = .ok (.iload_n 2, 1) := by decide +kernel
theorem dX7_explains_33 : decode cX7_explains 33 = .ok (.iaload, 1) := by decide +kernel
theorem dX7_explains_34 : decode cX7_explains 34 = .ok (.aload_n 0, 1) := by decide +kernel
theorem dX7_explains_35 : decode cX7_explains 35 = .ok (.getfield 15, 3) := by decide +kernel
theorem dX7_explains_38 : decode cX7_explains 38 = .ok (.iload 5, 2) := by decide +kernel
theorem dX7_explains_40 : decode cX7_explains 40 = .ok (.iaload, 1) := by decide +kernel
theorem dX7_explains_41 : decode cX7_explains 41 = .ok (.iload 4, 2) := by decide +kernel
theorem dX7_explains_43 : decode cX7_explains 43 = .ok (.iadd, 1) := by decide +kernel
theorem dX7_explains_44 : decode cX7_explains 44 = .ok (.iload_n 3, 1) := by decide +kernel
theorem dX7_explains_45 : decode cX7_explains 45 = .ok (.invokestatic 41, 3) := by decide +kernel
theorem dX7_explains_48 : decode cX7_explains 48 = .ok (.imul, 1) := by decide +kernel
theorem dX7_explains_49 : decode cX7_explains 49 = .ok (.iadd, 1) := by decide +kernel
theorem dX7_explains_50 : decode cX7_explains 50 = .ok (.istore 6, 2) := by decide +kernel
theorem dX7_explains_52 : decode cX7_explains 52 = .ok (.aload_n 0, 1) := by decide +kernel
theorem dX7_explains_53 : decode cX7_explains 53 = .ok (.getfield 9, 3) := by decide +kernel
theorem dX7_explains_56 : decode cX7_explains 56 = .ok (.iload 5, 2) := by decide +kernel
theorem dX7_explains_58 : decode cX7_explains 58 = .ok (.iaload, 1) := by decide +kernel
theorem dX7_explains_59 : decode cX7_explains 59 = .ok (.iload_n 2, 1) := by decide +kernel
theorem dX7_explains_60 : decode cX7_explains 60 = .ok (.if_icmp .ne 17, 3) := by decide +kernel
theorem dX7_explains_63 : decode cX7_explains 63 = .ok (.iload 6, 2) := by decide +kernel
theorem dX7_explains_65 : decode cX7_explains 65 = .ok (.aload_n 0, 1) := by decide +kernel
theorem dX7_explains_66 : decode cX7_explains 66 = .ok (.getfield 18, 3) := by decide +kernel
theorem dX7_explains_69 : decode cX7_explains 69 = .ok (.iload 5, 2) := by decide +kernel
theorem dX7_explains_71 : decode cX7_explains 71 = .ok (.iaload, 1) := by decide +kernel
theorem dX7_explains_72 : decode cX7_explains 72 = .ok (.if_icmp .eq 5, 3) := by decide +kernel
theorem dX7_explains_75 : decode cX7_explains 75 = .ok (.iconst 0, 1) := by decide +kernel
theorem dX7_explains_76 : decode cX7_explains 76 = .ok (.ireturn, 1) := by decide +kernel
theorem dX7_explains_77 : decode cX7_explains 77 = .ok (.iinc 5 1, 3) := by decide +kernel
theorem dX7_explains_80 : decode cX7_explains 80 = .ok (.goto (-67), 3) := by decide +kernel
theorem dX7_explains_83 : decode cX7_explains 83 = .ok (.iconst 1, 1) := by decide +kernel
theorem dX7_explains_84 : decode cX7_explains 84 = .ok (.ireturn, 1) := by decide +kernel
theorem dX8_init_0 : decode cX8_init 0 = .ok (.aload_n 0, 1) := by decide +kernel
theorem dX8_init_1 : decode cX8_init 1 = .ok (.invokespecial 3, 3) := by decide +kernel
theorem dX8_init_4 : decode cX8_init 4 = .ok (.aload_n 0, 1) := by decide +kernel
theorem dX8_init_5 : decode cX8_init 5 = .ok (.new 9, 3) := by decide +kernel
theorem dX8_init_8 : decode cX8_init 8 = .ok (.dup, 1) := by decide +kernel
theorem dX8_init_9 : decode cX8_init 9 = .ok (.invokespecial 11, 3) := by decide +kernel
theorem dX8_init_12 : decode cX8_init 12 = .ok (.putfield 12, 3) := by decide +kernel
theorem dX8_init_15 : decode cX8_init 15 = .ok (.aload_n 0, 1) := by decide +kernel
theorem dX8_init_16 : decode cX8_init 16 = .ok (.new 18, 3) := by decide +kernel
theorem dX8_init_19 : decode cX8_init 19 = .ok (.dup, 1) := by decide +kernel
theorem dX8_init_20 : decode cX8_init 20 = .ok (.invokespecial 20, 3) := by decide +kernel
theorem dX8_init_23 : decode cX8_init 23 = .ok (.putfield 21, 3) := by decide +kernel
theorem dX8_init_26 : decode cX8_init 26 = .ok (.aload_n 0, 1) := by decide +kernel
theorem dX8_init_27 : decode cX8_init 27 = .ok (.iconst 4, 1) := by decide +kernel
theorem dX8_init_28 : decode cX8_init 28 = .ok (.newarray .int, 2) := by decide +kernel
theorem dX8_init_30 : decode cX8_init 30 = .ok (.putfield 25, 3) := by decide +kernel
theorem dX8_init_33 : decode cX8_init 33 = .ok (.aload_n 0, 1) := by decide +kernel
theorem dX8_init_34 : decode cX8_init 34 = .ok (.iconst 4, 1) := by decide +kernel
theorem dX8_init_35 : decode cX8_init 35 = .ok (.newarray .int, 2) := by decide +kernel
theorem dX8_init_37 : decode cX8_init 37 = .ok (.putfield 29, 3) := by decide +kernel
theorem dX8_init_40 : decode cX8_init 40 = .ok (.aload_n 0, 1) := by decide +kernel
theorem dX8_init_41 : decode cX8_init 41 = .ok (.iconst 0, 1) := by decide +kernel
theorem dX8_init_42 : decode cX8_init 42 = .ok (.putfield 32, 3) := by decide +kernel
theorem dX8_init_45 : decode cX8_init 45 = .ok (.aload_n 0, 1) := by decide +kernel
theorem dX8_init_46 : decode cX8_init 46 = .ok (.iconst (-1), 1) := by decide +kernel
theorem dX8_init_47 : decode cX8_init 47 = .ok (.putfield 36, 3) := by decide +kernel
theorem dX8_init_50 : decode cX8_init 50 = .ok (.return_, 1) := by decide +kernel
theorem dX8_clear_0 : decode cX8_clear 0 = .ok (.aload_n 0, 1) := by decide +kernel
theorem dX8_clear_1 : decode cX8_clear 1 = .ok (.getfield 12, 3) := by decide +kernel
theorem dX8_clear_4 : decode cX8_clear 4 = .ok (.invokevirtual 39, 3) := by decide +kernel
theorem dX8_clear_7 : decode cX8_clear 7 = .ok (.aload_n 0, 1) := by decide +kernel
theorem dX8_clear_8 : decode cX8_clear 8 = .ok (.getfield 21, 3) := by decide +kernel
theorem dX8_clear_11 : decode cX8_clear 11 = .ok (.iconst 0, 1) := by decide +kernel
theorem dX8_clear_12 : decode cX8_clear 12 = .ok (.putfield 42, 3) := by decide +kernel
theorem dX8_clear_15 : decode cX8_clear 15 = .ok (.aload_n 0, 1) := by decide +kernel
theorem dX8_clear_16 : decode cX8_clear 16 = .ok (.iconst 0, 1) := by decide +kernel
theorem dX8_clear_17 : decode cX8_clear 17 = .ok (.putfield 32, 3) := by decide +kernel
theorem dX8_clear_20 : decode cX8_clear 20 = .ok (.aload_n 0, 1) := by decide +kernel
theorem dX8_clear_21 : decode cX8_clear 21 = .ok (.iconst (-1), 1) := by decide +kernel
theorem dX8_clear_22 : decode cX8_clear 22 = .ok (.putfield 36, 3) := by decide +kernel
theorem dX8_clear_25 : decode cX8_clear 25 = .ok (.return_, 1) := by decide +kernel
theorem dX8_barrelStart_0 : decode cX8_barrelStart 0 = .ok (.aload_n 0, 1) := by decide +kernel
theorem dX8_barrelStart_1 : decode cX8_barrelStart 1 = .ok (.getfield 12, 3) := by decide +kernel
theorem dX8_barrelStart_4 : decode cX8_barrelStart 4 = .ok (.getfield 45, 3) := by decide +kernel
theorem dX8_barrelStart_7 : decode cX8_barrelStart 7 = .ok (.ifCond .ne 5, 3) := by decide +kernel
theorem dX8_barrelStart_10 : decode cX8_barrelStart 10 = .ok (.iconst (-1), 1) := by decide +kernel
theorem dX8_barrelStart_11 : decode cX8_barrelStart 11 = .ok (.ireturn, 1) := by decide +kernel
theorem dX8_barrelStart_12 : decode cX8_barrelStart 12 = .ok (.aload_n 0, 1) := by decide +kernel
theorem dX8_barrelStart_13 : decode cX8_barrelStart 13 = .ok (.getfield 36, 3) := by decide +kernel
theorem dX8_barrelStart_16 : decode cX8_barrelStart 16 = .ok (.iconst (-1), 1) := by decide +kernel
theorem dX8_barrelStart_17 : decode cX8_barrelStart 17 = .ok (.if_icmp .ne 7, 3) := by decide +kernel
theorem dX8_barrelStart_20 : decode cX8_barrelStart 20 = .ok (.iconst 0, 1) := by decide +kernel
theorem dX8_barrelStart_21 : decode cX8_barrelStart 21 = .ok (.goto 7, 3) := by decide +kernel
theorem dX8_barrelStart_24 : decode cX8_barrelStart 24 = .ok (.aload_n 0, 1) := by decide +kernel
theorem dX8_barrelStart_25 : decode cX8_barrelStart 25 = .ok (.getfield 36, 3) := by decide +kernel
theorem dX8_barrelStart_28 : decode cX8_barrelStart 28 = .ok (.ireturn, 1) := by decide +kernel
theorem dX8_hasHouse_0 : decode cX8_hasHouse 0 = .ok (.iload_n 1, 1) := by decide +kernel
theorem dX8_hasHouse_1 : decode cX8_hasHouse 1 = .ok (.ifCond .lt 15, 3) := by decide +kernel
theorem dX8_hasHouse_4 : decode cX8_hasHouse 4 = .ok (.iload_n 1, 1) := by decide +kernel
theorem dX8_hasHouse_5 : decode cX8_hasHouse 5 = .ok (.aload_n 0, 1) := by decide +kernel
theorem dX8_hasHouse_6 : decode cX8_hasHouse 6 = .ok (.getfield 32, 3) := by decide +kernel
theorem dX8_hasHouse_9 : decode cX8_hasHouse 9 = .ok (.if_icmp .ge 7, 3) := by decide +kernel
theorem dX8_hasHouse_12 : decode cX8_hasHouse 12 = .ok (.iconst 1, 1) := by decide +kernel
theorem dX8_hasHouse_13 : decode cX8_hasHouse 13 = .ok (.goto 4, 3) := by decide +kernel
theorem dX8_hasHouse_16 : decode cX8_hasHouse 16 = .ok (.iconst 0, 1) := by decide +kernel
theorem dX8_hasHouse_17 : decode cX8_hasHouse 17 = .ok (.ireturn, 1) := by decide +kernel
theorem dX8_addHouse_0 : decode cX8_addHouse 0 = .ok (.aload_n 0, 1) := by decide +kernel
theorem dX8_addHouse_1 : decode cX8_addHouse 1 = .ok (.getfield 32, 3) := by decide +kernel
theorem dX8_addHouse_4 : decode cX8_addHouse 4 = .ok (.iconst 4, 1) := by decide +kernel
theorem dX8_addHouse_5 : decode cX8_addHouse 5 = .ok (.if_icmp .lt 4, 3) := by decide +kernel
theorem dX8_addHouse_8 : decode cX8_addHouse 8 = .ok (.return_, 1) := by decide +kernel
theorem dX8_addHouse_9 : decode cX8_addHouse 9 = .ok (.aload_n 0, 1) := by decide +kernel
theorem dX8_addHouse_10 : decode cX8_addHouse 10 = .ok (.getfield 25, 3) := by decide +kernel
theorem dX8_addHouse_13 : decode cX8_addHouse 13 = .ok (.aload_n 0, 1) := by decide +kernel
theorem dX8_addHouse_14 : decode cX8_addHouse 14 = .ok (.getfield 32, 3) := by decide +kernel
theorem dX8_addHouse_17 : decode cX8_addHouse 17 = .ok (.iload_n 1, 1) := by decide +kernel
theorem dX8_addHouse_18 : decode cX8_addHouse 18 = .ok (.iastore, 1) := by decide +kernel
theorem dX8_addHouse_19 : decode cX8_addHouse 19 = .ok (.aload_n 0, 1) := by decide +kernel
theorem dX8_addHouse_20 : decode cX8_addHouse 20 = .ok (.getfield 29, 3) := by decide +kernel
theorem dX8_addHouse_23 : decode cX8_addHouse 23 = .ok (.aload_n 0, 1) := by decide +kernel
theorem dX8_addHouse_24 : decode cX8_addHouse 24 = .ok (.getfield 32, 3) := by decide +kernel
theorem dX8_addHouse_27 : decode cX8_addHouse 27 = .ok (.iload_n 2, 1) := by decide +kernel
theorem dX8_addHouse_28 : decode cX8_addHouse 28 = .ok (.iastore, 1) := by decide +kernel
theorem dX8_addHouse_29 : decode cX8_addHouse 29 = .ok (.aload_n 0, 1) := by decide +kernel
theorem dX8_addHouse_30 : decode cX8_addHouse 30 = .ok (.dup, 1) := by decide +kernel
theorem dX8_addHouse_31 : decode cX8_addHouse 31 = .ok (.getfield 32, 3) := by decide +kernel
theorem dX8_addHouse_34 : decode cX8_addHouse 34 = .ok (.iconst 1, 1) := by decide +kernel
theorem dX8_addHouse_35 : decode cX8_addHouse 35 = .ok (.iadd, 1) := by decide +kernel
theorem dX8_addHouse_36 : decode cX8_addHouse 36 = .ok (.putfield 32, 3) := by decide +kernel
theorem dX8_addHouse_39 : decode cX8_addHouse 39 = .ok (.return_, 1) := by decide +kernel
theorem dX8_strain_0 : decode cX8_strain 0 = .ok (.aload_n 0, 1) := by decide +kernel
theorem dX8_strain_1 : decode cX8_strain 1 = .ok (.iload_n 1, 1) := by decide +kernel
theorem dX8_strain_2 : decode cX8_strain 2 = .ok (.invokevirtual 46, 3) := by decide +kernel
theorem dX8_strain_5 : decode cX8_strain 5 = .ok (.ifCond .eq 23, 3) := by decide +kernel
theorem dX8_strain_8 : decode cX8_strain 8 = .ok (.aload_n 0, 1) := by decide +kernel
theorem dX8_strain_9 : decode cX8_strain 9 = .ok (.getfield 12, 3) := by decide +kernel
theorem dX8_strain_12 : decode cX8_strain 12 = .ok (.aload_n 0, 1) := by decide +kernel
theorem dX8_strain_13 : decode cX8_strain 13 = .ok (.getfield 25, 3) := by decide +kernel
theorem dX8_strain_16 : decode cX8_strain 16 = .ok (.iload_n 1, 1) := by decide +kernel
theorem dX8_strain_17 : decode cX8_strain 17 = .ok (.iaload, 1) := by decide +kernel
theorem dX8_strain_18 : decode cX8_strain 18 = .ok (.iload_n 2, 1) := by decide +kernel
theorem dX8_strain_19 : decode cX8_strain 19 = .ok (.invokevirtual 50, 3) := by decide +kernel
theorem dX8_strain_22 : decode cX8_strain 22 = .ok (.invokestatic 54, 3) := by decide +kernel
theorem dX8_strain_25 : decode cX8_strain 25 = .ok (.goto 4, 3) := by decide +kernel
theorem dX8_strain_28 : decode cX8_strain 28 = .ok (.iconst 0, 1) := by decide +kernel
theorem dX8_strain_29 : decode cX8_strain 29 = .ok (.ireturn, 1) := by decide +kernel
theorem dX8_strainRound_0 : decode cX8_strainRound 0 = .ok (.aload_n 0, 1) := by decide +kernel
theorem dX8_strainRound_1 : decode cX8_strainRound 1 = .ok (.iload_n 1, 1) := by decide +kernel
theorem dX8_strainRound_2 : decode cX8_strainRound 2 = .ok (.invokevirtual 46, 3) := by decide +kernel
theorem dX8_strainRound_5 : decode cX8_strainRound 5 = .ok (.ifCond .eq 19, 3) := by decide +kernel
theorem dX8_strainRound_8 : decode cX8_strainRound 8 = .ok (.aload_n 0, 1) := by decide +kernel
theorem dX8_strainRound_9 : decode cX8_strainRound 9 = .ok (.getfield 12, 3) := by decide +kernel
theorem dX8_strainRound_12 : decode cX8_strainRound 12 = .ok (.aload_n 0, 1) := by decide +kernel
theorem dX8_strainRound_13 : decode cX8_strainRound 13 = .ok (.getfield 25, 3) := by decide +kernel
theorem dX8_strainRound_16 : decode cX8_strainRound 16 = .ok (.iload_n 1, 1) := by decide +kernel
theorem dX8_strainRound_17 : decode cX8_strainRound 17 = .ok (.iaload, 1) := by decide +kernel
theorem dX8_strainRound_18 : decode cX8_strainRound 18 = .ok (.invokevirtual 60, 3) := by decide +kernel
theorem dX8_strainRound_21 : decode cX8_strainRound 21 = .ok (.goto 4, 3) := by decide +kernel
theorem dX8_strainRound_24 : decode cX8_strainRound 24 = .ok (.iconst 0, 1) := by decide +kernel
theorem dX8_strainRound_25 : decode cX8_strainRound 25 = .ok (.ireturn, 1) := by decide +kernel
theorem dX8_crackedSet_0 : decode cX8_crackedSet 0 = .ok (.iconst 0, 1) := by decide +kernel
theorem dX8_crackedSet_1 : decode cX8_crackedSet 1 = .ok (.istore_n 2, 1) := by decide +kernel
theorem dX8_crackedSet_2 : decode cX8_crackedSet 2 = .ok (.iconst 0, 1) := by decide +kernel
theorem dX8_crackedSet_3 : decode cX8_crackedSet 3 = .ok (.istore_n 3, 1) := by decide +kernel
theorem dX8_crackedSet_4 : decode cX8_crackedSet 4 = .ok (.iload_n 3, 1) := by decide +kernel
theorem dX8_crackedSet_5 : decode cX8_crackedSet 5 = .ok (.aload_n 0, 1) := by decide +kernel
theorem dX8_crackedSet_6 : decode cX8_crackedSet 6 = .ok (.getfield 32, 3) := by decide +kernel
theorem dX8_crackedSet_9 : decode cX8_crackedSet 9 = .ok (.if_icmp .ge 30, 3) := by decide +kernel
theorem dX8_crackedSet_12 : decode cX8_crackedSet 12 = .ok (.aload_n 0, 1) := by decide +kernel
theorem dX8_crackedSet_13 : decode cX8_crackedSet 13 = .ok (.iload_n 3, 1) := by decide +kernel
theorem dX8_crackedSet_14 : decode cX8_crackedSet 14 = .ok (.iload_n 1, 1) := by decide +kernel
theorem dX8_crackedSet_15 : decode cX8_crackedSet 15 = .ok (.invokevirtual 63, 3) := by decide +kernel
theorem dX8_crackedSet_18 : decode cX8_crackedSet 18 = .ok (.aload_n 0, 1) := by decide +kernel
theorem dX8_crackedSet_19 : decode cX8_crackedSet 19 = .ok (.getfield 29, 3) := by decide +kernel
theorem dX8_crackedSet_22 : decode cX8_crackedSet 22 = .ok (.iload_n 3, 1) := by decide +kernel
theorem dX8_crackedSet_23 : decode cX8_crackedSet 23 = .ok (.iaload, 1) := by decide +kernel
theorem dX8_crackedSet_24 : decode cX8_crackedSet 24 = .ok (.if_icmp .le 9, 3) := by decide +kernel
theorem dX8_crackedSet_27 : decode cX8_crackedSet 27 = .ok (.iload_n 2, 1) := by decide +kernel
theorem dX8_crackedSet_28 : decode cX8_crackedSet 28 = .ok (.iconst 1, 1) := by decide +kernel
theorem dX8_crackedSet_29 : decode cX8_crackedSet 29 = .ok (.iload_n 3, 1) := by decide +kernel
theorem dX8_crackedSet_30 : decode cX8_crackedSet 30 = .ok (.ishl, 1) := by decide +kernel
theorem dX8_crackedSet_31 : decode cX8_crackedSet 31 = .ok (.ior, 1) := by decide +kernel
theorem dX8_crackedSet_32 : decode cX8_crackedSet 32 = .ok (.istore_n 2, 1) := by decide +kernel
theorem dX8_crackedSet_33 : decode cX8_crackedSet 33 = .ok (.iinc 3 1, 3) := by decide +kernel
theorem dX8_crackedSet_36 : decode cX8_crackedSet 36 = .ok (.goto (-32), 3) := by decide +kernel
theorem dX8_crackedSet_39 : decode cX8_crackedSet 39 = .ok (.iload_n 2, 1) := by decide +kernel
theorem dX8_crackedSet_40 : decode cX8_crackedSet 40 = .ok (.ireturn, 1) := by decide +kernel
theorem dX8_firstCrack_0 : decode cX8_firstCrack 0 = .ok (.aload_n 0, 1) := by decide +kernel
theorem dX8_firstCrack_1 : decode cX8_firstCrack 1 = .ok (.iload_n 1, 1) := by decide +kernel
theorem dX8_firstCrack_2 : decode cX8_firstCrack 2 = .ok (.invokevirtual 46, 3) := by decide +kernel
theorem dX8_firstCrack_5 : decode cX8_firstCrack 5 = .ok (.ifCond .ne 5, 3) := by decide +kernel
theorem dX8_firstCrack_8 : decode cX8_firstCrack 8 = .ok (.iconst (-1), 1) := by decide +kernel
theorem dX8_firstCrack_9 : decode cX8_firstCrack 9 = .ok (.ireturn, 1) := by decide +kernel
theorem dX8_firstCrack_10 : decode cX8_firstCrack 10 = .ok (.iload_n 2, 1) := by decide +kernel
theorem dX8_firstCrack_11 : decode cX8_firstCrack 11 = .ok (.aload_n 0, 1) := by decide +kernel
theorem dX8_firstCrack_12 : decode cX8_firstCrack 12 = .ok (.iload_n 1, 1) := by decide +kernel
theorem dX8_firstCrack_13 : decode cX8_firstCrack 13 = .ok (.invokevirtual 66, 3) := by decide +kernel
theorem dX8_firstCrack_16 : decode cX8_firstCrack 16 = .ok (.iadd, 1) := by decide +kernel
theorem dX8_firstCrack_17 : decode cX8_firstCrack 17 = .ok (.istore_n 3, 1) := by decide +kernel
theorem dX8_firstCrack_18 : decode cX8_firstCrack 18 = .ok (.iload_n 2, 1) := by decide +kernel
theorem dX8_firstCrack_19 : decode cX8_firstCrack 19 = .ok (.istore 4, 2) := by decide +kernel
theorem dX8_firstCrack_21 : decode cX8_firstCrack 21 = .ok (.iload 4, 2) := by decide +kernel
theorem dX8_firstCrack_23 : decode cX8_firstCrack 23 = .ok (.iload_n 3, 1) := by decide +kernel
theorem dX8_firstCrack_24 : decode cX8_firstCrack 24 = .ok (.if_icmp .ge 28, 3) := by decide +kernel
theorem dX8_firstCrack_27 : decode cX8_firstCrack 27 = .ok (.aload_n 0, 1) := by decide +kernel
theorem dX8_firstCrack_28 : decode cX8_firstCrack 28 = .ok (.iload_n 1, 1) := by decide +kernel
theorem dX8_firstCrack_29 : decode cX8_firstCrack 29 = .ok (.iload 4, 2) := by decide +kernel
theorem dX8_firstCrack_31 : decode cX8_firstCrack 31 = .ok (.invokevirtual 63, 3) := by decide +kernel
theorem dX8_firstCrack_34 : decode cX8_firstCrack 34 = .ok (.aload_n 0, 1) := by decide +kernel
theorem dX8_firstCrack_35 : decode cX8_firstCrack 35 = .ok (.getfield 29, 3) := by decide +kernel
theorem dX8_firstCrack_38 : decode cX8_firstCrack 38 = .ok (.iload_n 1, 1) := by decide +kernel
theorem dX8_firstCrack_39 : decode cX8_firstCrack 39 = .ok (.iaload, 1) := by decide +kernel
theorem dX8_firstCrack_40 : decode cX8_firstCrack 40 = .ok (.if_icmp .le 6, 3) := by decide +kernel
theorem dX8_firstCrack_43 : decode cX8_firstCrack 43 = .ok (.iload 4, 2) := by decide +kernel
theorem dX8_firstCrack_45 : decode cX8_firstCrack 45 = .ok (.ireturn, 1) := by decide +kernel
theorem dX8_firstCrack_46 : decode cX8_firstCrack 46 = .ok (.iinc 4 1, 3) := by decide +kernel
theorem dX8_firstCrack_49 : decode cX8_firstCrack 49 = .ok (.goto (-28), 3) := by decide +kernel
theorem dX8_firstCrack_52 : decode cX8_firstCrack 52 = .ok (.iconst (-1), 1) := by decide +kernel
theorem dX8_firstCrack_53 : decode cX8_firstCrack 53 = .ok (.ireturn, 1) := by decide +kernel
theorem dX8_slackNeeded_0 : decode cX8_slackNeeded 0 = .ok (.iconst 0, 1) := by decide +kernel
theorem dX8_slackNeeded_1 : decode cX8_slackNeeded 1 = .ok (.istore_n 2, 1) := by decide +kernel
theorem dX8_slackNeeded_2 : decode cX8_slackNeeded 2 = .ok (.aload_n 0, 1) := by decide +kernel
theorem dX8_slackNeeded_3 : decode cX8_slackNeeded 3 = .ok (.iload_n 1, 1) := by decide +kernel
theorem dX8_slackNeeded_4 : decode cX8_slackNeeded 4 = .ok (.invokevirtual 66, 3) := by decide +kernel
theorem dX8_slackNeeded_7 : decode cX8_slackNeeded 7 = .ok (.istore_n 3, 1) := by decide +kernel
theorem dX8_slackNeeded_8 : decode cX8_slackNeeded 8 = .ok (.iconst 0, 1) := by decide +kernel
theorem dX8_slackNeeded_9 : decode cX8_slackNeeded 9 = .ok (.istore 4, 2) := by decide +kernel
theorem dX8_slackNeeded_11 : decode cX8_slackNeeded 11 = .ok (.iload 4, 2) := by decide +kernel
theorem dX8_slackNeeded_13 : decode cX8_slackNeeded 13 = .ok (.iload_n 3, 1) := by decide +kernel
theorem dX8_slackNeeded_14 : decode cX8_slackNeeded 14 = .ok (.if_icmp .ge 21, 3) := by decide +kernel
theorem dX8_slackNeeded_17 : decode cX8_slackNeeded 17 = .ok (.iload_n 2, 1) := by decide +kernel
theorem dX8_slackNeeded_18 : decode cX8_slackNeeded 18 = .ok (.aload_n 0, 1) := by decide +kernel
theorem dX8_slackNeeded_19 : decode cX8_slackNeeded 19 = .ok (.iload_n 1, 1) := by decide +kernel
theorem dX8_slackNeeded_20 : decode cX8_slackNeeded 20 = .ok (.iload 4, 2) := by decide +kernel
theorem dX8_slackNeeded_22 : decode cX8_slackNeeded 22 = .ok (.invokevirtual 63, 3) := by decide +kernel
theorem dX8_slackNeeded_25 : decode cX8_slackNeeded 25 = .ok (.invokestatic 69, 3) := by decide +kernel
theorem dX8_slackNeeded_28 : decode cX8_slackNeeded 28 = .ok (.istore_n 2, 1) := by decide +kernel
theorem dX8_slackNeeded_29 : decode cX8_slackNeeded 29 = .ok (.iinc 4 1, 3) := by decide +kernel
theorem dX8_slackNeeded_32 : decode cX8_slackNeeded 32 = .ok (.goto (-21), 3) := by decide +kernel
theorem dX8_slackNeeded_35 : decode cX8_slackNeeded 35 = .ok (.iload_n 2, 1) := by decide +kernel
theorem dX8_slackNeeded_36 : decode cX8_slackNeeded 36 = .ok (.ireturn, 1) := by decide +kernel
theorem dX8_neediestHouse_0 : decode cX8_neediestHouse 0 = .ok (.iconst (-1), 1) := by decide +kernel
theorem dX8_neediestHouse_1 : decode cX8_neediestHouse 1 = .ok (.istore_n 1, 1) := by decide +kernel
theorem dX8_neediestHouse_2 : decode cX8_neediestHouse 2 = .ok (.iconst 0, 1) := by decide +kernel
theorem dX8_neediestHouse_3 : decode cX8_neediestHouse 3 = .ok (.istore_n 2, 1) := by decide +kernel
theorem dX8_neediestHouse_4 : decode cX8_neediestHouse 4 = .ok (.iconst 0, 1) := by decide +kernel
theorem dX8_neediestHouse_5 : decode cX8_neediestHouse 5 = .ok (.istore_n 3, 1) := by decide +kernel
theorem dX8_neediestHouse_6 : decode cX8_neediestHouse 6 = .ok (.iload_n 3, 1) := by decide +kernel
theorem dX8_neediestHouse_7 : decode cX8_neediestHouse 7 = .ok (.aload_n 0, 1) := by decide +kernel
theorem dX8_neediestHouse_8 : decode cX8_neediestHouse 8 = .ok (.getfield 32, 3) := by decide +kernel
theorem dX8_neediestHouse_11 : decode cX8_neediestHouse 11 = .ok (.if_icmp .ge 34, 3) := by decide +kernel
theorem dX8_neediestHouse_14 : decode cX8_neediestHouse 14 = .ok (.aload_n 0, 1) := by decide +kernel
theorem dX8_neediestHouse_15 : decode cX8_neediestHouse 15 = .ok (.iload_n 3, 1) := by decide +kernel
theorem dX8_neediestHouse_16 : decode cX8_neediestHouse 16 = .ok (.invokevirtual 72, 3) := by decide +kernel
theorem dX8_neediestHouse_19 : decode cX8_neediestHouse 19 = .ok (.aload_n 0, 1) := by decide +kernel
theorem dX8_neediestHouse_20 : decode cX8_neediestHouse 20 = .ok (.getfield 29, 3) := by decide +kernel
theorem dX8_neediestHouse_23 : decode cX8_neediestHouse 23 = .ok (.iload_n 3, 1) := by decide +kernel
theorem dX8_neediestHouse_24 : decode cX8_neediestHouse 24 = .ok (.iaload, 1) := by decide +kernel
theorem dX8_neediestHouse_25 : decode cX8_neediestHouse 25 = .ok (.isub, 1) := by decide +kernel
theorem dX8_neediestHouse_26 : decode cX8_neediestHouse 26 = .ok (.istore 4, 2) := by decide +kernel
theorem dX8_neediestHouse_28 : decode cX8_neediestHouse 28 = .ok (.iload 4, 2) := by decide +kernel
theorem dX8_neediestHouse_30 : decode cX8_neediestHouse 30 = .ok (.iload_n 2, 1) := by decide +kernel
theorem dX8_neediestHouse_31 : decode cX8_neediestHouse 31 = .ok (.if_icmp .le 8, 3) := by decide +kernel
theorem dX8_neediestHouse_34 : decode cX8_neediestHouse 34 = .ok (.iload 4, 2) := by decide +kernel
theorem dX8_neediestHouse_36 : decode cX8_neediestHouse 36 = .ok (.istore_n 2, 1) := by decide +kernel
theorem dX8_neediestHouse_37 : decode cX8_neediestHouse 37 = .ok (.iload_n 3, 1) := by decide +kernel
theorem dX8_neediestHouse_38 : decode cX8_neediestHouse 38 = .ok (.istore_n 1, 1) := by decide +kernel
theorem dX8_neediestHouse_39 : decode cX8_neediestHouse 39 = .ok (.iinc 3 1, 3) := by decide +kernel
theorem dX8_neediestHouse_42 : decode cX8_neediestHouse 42 = .ok (.goto (-36), 3) := by decide +kernel
theorem dX8_neediestHouse_45 : decode cX8_neediestHouse 45 = .ok (.iload_n 1, 1) := by decide +kernel
theorem dX8_neediestHouse_46 : decode cX8_neediestHouse 46 = .ok (.ireturn, 1) := by decide +kernel
theorem dX9_init_0 : decode cX9_init 0 = .ok (.aload_n 0, 1) := by decide +kernel
theorem dX9_init_1 : decode cX9_init 1 = .ok (.invokespecial 3, 3) := by decide +kernel
theorem dX9_init_4 : decode cX9_init 4 = .ok (.aload_n 0, 1) := by decide +kernel
theorem dX9_init_5 : decode cX9_init 5 = .ok (.sipush 250, 3) := by decide +kernel
theorem dX9_init_8 : decode cX9_init 8 = .ok (.newarray .int, 2) := by decide +kernel
theorem dX9_init_10 : decode cX9_init 10 = .ok (.putfield 9, 3) := by decide +kernel
theorem dX9_init_13 : decode cX9_init 13 = .ok (.aload_n 0, 1) := by decide +kernel
theorem dX9_init_14 : decode cX9_init 14 = .ok (.iconst 0, 1) := by decide +kernel
theorem dX9_init_15 : decode cX9_init 15 = .ok (.putfield 15, 3) := by decide +kernel
theorem dX9_init_18 : decode cX9_init 18 = .ok (.aload_n 0, 1) := by decide +kernel
theorem dX9_init_19 : decode cX9_init 19 = .ok (.iconst 0, 1) := by decide +kernel
theorem dX9_init_20 : decode cX9_init 20 = .ok (.putfield 19, 3) := by decide +kernel
theorem dX9_init_23 : decode cX9_init 23 = .ok (.aload_n 0, 1) := by decide +kernel
theorem dX9_init_24 : decode cX9_init 24 = .ok (.iconst 0, 1) := by decide +kernel
theorem dX9_init_25 : decode cX9_init 25 = .ok (.putfield 22, 3) := by decide +kernel
theorem dX9_init_28 : decode cX9_init 28 = .ok (.aload_n 0, 1) := by decide +kernel
theorem dX9_init_29 : decode cX9_init 29 = .ok (.iconst (-1), 1) := by decide +kernel
theorem dX9_init_30 : decode cX9_init 30 = .ok (.putfield 25, 3) := by decide +kernel
theorem dX9_init_33 : decode cX9_init 33 = .ok (.return_, 1) := by decide +kernel
theorem dX9_add_0 : decode cX9_add 0 = .ok (.aload_n 0, 1) := by decide +kernel
theorem dX9_add_1 : decode cX9_add 1 = .ok (.getfield 15, 3) := by decide +kernel
theorem dX9_add_4 : decode cX9_add 4 = .ok (.sipush 250, 3) := by decide +kernel
theorem dX9_add_7 : decode cX9_add 7 = .ok (.if_icmp .ge 23, 3) := by decide +kernel
theorem dX9_add_10 : decode cX9_add 10 = .ok (.aload_n 0, 1) := by decide +kernel
theorem dX9_add_11 : decode cX9_add 11 = .ok (.getfield 9, 3) := by decide +kernel
theorem dX9_add_14 : decode cX9_add 14 = .ok (.aload_n 0, 1) := by decide +kernel
theorem dX9_add_15 : decode cX9_add 15 = .ok (.getfield 15, 3) := by decide +kernel
theorem dX9_add_18 : decode cX9_add 18 = .ok (.iload_n 1, 1) := by decide +kernel
theorem dX9_add_19 : decode cX9_add 19 = .ok (.iastore, 1) := by decide +kernel
theorem dX9_add_20 : decode cX9_add 20 = .ok (.aload_n 0, 1) := by decide +kernel
theorem dX9_add_21 : decode cX9_add 21 = .ok (.dup, 1) := by decide +kernel
theorem dX9_add_22 : decode cX9_add 22 = .ok (.getfield 15, 3) := by decide +kernel
theorem dX9_add_25 : decode cX9_add 25 = .ok (.iconst 1, 1) := by decide +kernel
theorem dX9_add_26 : decode cX9_add 26 = .ok (.iadd, 1) := by decide +kernel
theorem dX9_add_27 : decode cX9_add 27 = .ok (.putfield 15, 3) := by decide +kernel
theorem dX9_add_30 : decode cX9_add 30 = .ok (.aload_n 0, 1) := by decide +kernel
theorem dX9_add_31 : decode cX9_add 31 = .ok (.getfield 15, 3) := by decide +kernel
theorem dX9_add_34 : decode cX9_add 34 = .ok (.ireturn, 1) := by decide +kernel
theorem dX9_readInto_0 : decode cX9_readInto 0 = .ok (.aload_n 1, 1) := by decide +kernel
theorem dX9_readInto_1 : decode cX9_readInto 1 = .ok (.invokevirtual 28, 3) := by decide +kernel
theorem dX9_readInto_4 : decode cX9_readInto 4 = .ok (.aload_n 0, 1) := by decide +kernel
theorem dX9_readInto_5 : decode cX9_readInto 5 = .ok (.iconst 0, 1) := by decide +kernel
theorem dX9_readInto_6 : decode cX9_readInto 6 = .ok (.putfield 19, 3) := by decide +kernel
theorem dX9_readInto_9 : decode cX9_readInto 9 = .ok (.aload_n 0, 1) := by decide +kernel
theorem dX9_readInto_10 : decode cX9_readInto 10 = .ok (.iconst 0, 1) := by decide +kernel
theorem dX9_readInto_11 : decode cX9_readInto 11 = .ok (.putfield 22, 3) := by decide +kernel
theorem dX9_readInto_14 : decode cX9_readInto 14 = .ok (.aload_n 0, 1) := by decide +kernel
theorem dX9_readInto_15 : decode cX9_readInto 15 = .ok (.iconst (-1), 1) := by decide +kernel
theorem dX9_readInto_16 : decode cX9_readInto 16 = .ok (.putfield 25, 3) := by decide +kernel
theorem dX9_readInto_19 : decode cX9_readInto 19 = .ok (.aload_n 0, 1) := by decide +kernel
theorem dX9_readInto_20 : decode cX9_readInto 20 = .ok (.invokevirtual 33, 3) := by decide +kernel
theorem dX9_readInto_23 : decode cX9_readInto 23 = .ok (.iconst 0, 1) := by decide +kernel
theorem dX9_readInto_24 : decode cX9_readInto 24 = .ok (.istore_n 2, 1) := by decide +kernel
theorem dX9_readInto_25 : decode cX9_readInto 25 = .ok (.iload_n 2, 1) := by decide +kernel
theorem dX9_readInto_26 : decode cX9_readInto 26 = .ok (.sipush 250, 3) := by decide +kernel
theorem dX9_readInto_29 : decode cX9_readInto 29 = .ok (.if_icmp .ge 36, 3) := by decide +kernel
theorem dX9_readInto_32 : decode cX9_readInto 32 = .ok (.aload_n 0, 1) := by decide +kernel
theorem dX9_readInto_33 : decode cX9_readInto 33 = .ok (.getfield 19, 3) := by decide +kernel
theorem dX9_readInto_36 : decode cX9_readInto 36 = .ok (.aload_n 0, 1) := by decide +kernel
theorem dX9_readInto_37 : decode cX9_readInto 37 = .ok (.getfield 15, 3) := by decide +kernel
theorem dX9_readInto_40 : decode cX9_readInto 40 = .ok (.if_icmp .ge 25, 3) := by decide +kernel
theorem dX9_readInto_43 : decode cX9_readInto 43 = .ok (.aload_n 0, 1) := by decide +kernel
theorem dX9_readInto_44 : decode cX9_readInto 44 = .ok (.getfield 22, 3) := by decide +kernel
theorem dX9_readInto_47 : decode cX9_readInto 47 = .ok (.ifCond .ne 18, 3) := by decide +kernel
theorem dX9_readInto_50 : decode cX9_readInto 50 = .ok (.aload_n 0, 1) := by decide +kernel
theorem dX9_readInto_51 : decode cX9_readInto 51 = .ok (.aload_n 1, 1) := by decide +kernel
theorem dX9_readInto_52 : decode cX9_readInto 52 = .ok (.invokevirtual 36, 3) := by decide +kernel
theorem dX9_readInto_55 : decode cX9_readInto 55 = .ok (.aload_n 0, 1) := by decide +kernel
theorem dX9_readInto_56 : decode cX9_readInto 56 = .ok (.invokevirtual 33, 3) := by decide +kernel
theorem dX9_readInto_59 : decode cX9_readInto 59 = .ok (.iinc 2 1, 3) := by decide +kernel
theorem dX9_readInto_62 : decode cX9_readInto 62 = .ok (.goto (-37), 3) := by decide +kernel
theorem dX9_readInto_65 : decode cX9_readInto 65 = .ok (.aload_n 0, 1) := by decide +kernel
theorem dX9_readInto_66 : decode cX9_readInto 66 = .ok (.getfield 22, 3) := by decide +kernel
theorem dX9_readInto_69 : decode cX9_readInto 69 = .ok (.ireturn, 1) := by decide +kernel
theorem dX9_readClause_0 : decode cX9_readClause 0 = .ok (.aload_n 0, 1) := by decide +kernel
theorem dX9_readClause_1 : decode cX9_readClause 1 = .ok (.invokevirtual 40, 3) := by decide +kernel
theorem dX9_readClause_4 : decode cX9_readClause 4 = .ok (.lookupswitch 89 #[(98, 81), (102, 44), (104, 55), (115, 63)], 44) := by decide +kernel
theorem dX9_readClause_48 : decode cX9_readClause 48 = .ok (.aload_n 0, 1) := by decide +kernel
theorem dX9_readClause_49 : decode cX9_readClause 49 = .ok (.aload_n 1, 1) := by decide +kernel
theorem dX9_readClause_50 : decode cX9_readClause 50 = .ok (.getfield 44, 3) := by decide +kernel
theorem dX9_readClause_53 : decode cX9_readClause 53 = .ok (.invokevirtual 48, 3) := by decide +kernel
theorem dX9_readClause_56 : decode cX9_readClause 56 = .ok (.goto 46, 3) := by decide +kernel
theorem dX9_readClause_59 : decode cX9_readClause 59 = .ok (.aload_n 0, 1) := by decide +kernel
theorem dX9_readClause_60 : decode cX9_readClause 60 = .ok (.aload_n 1, 1) := by decide +kernel
theorem dX9_readClause_61 : decode cX9_readClause 61 = .ok (.invokevirtual 52, 3) := by decide +kernel
theorem dX9_readClause_64 : decode cX9_readClause 64 = .ok (.goto 38, 3) := by decide +kernel
theorem dX9_readClause_67 : decode cX9_readClause 67 = .ok (.aload_n 0, 1) := by decide +kernel
theorem dX9_readClause_68 : decode cX9_readClause 68 = .ok (.aload_n 1, 1) := by decide +kernel
theorem dX9_readClause_69 : decode cX9_readClause 69 = .ok (.getfield 55, 3) := by decide +kernel
theorem dX9_readClause_72 : decode cX9_readClause 72 = .ok (.aload_n 1, 1) := by decide +kernel
theorem dX9_readClause_73 : decode cX9_readClause 73 = .ok (.getfield 44, 3) := by decide +kernel
theorem dX9_readClause_76 : decode cX9_readClause 76 = .ok (.getfield 59, 3) := by decide +kernel
theorem dX9_readClause_79 : decode cX9_readClause 79 = .ok (.invokevirtual 64, 3) := by decide +kernel
theorem dX9_readClause_82 : decode cX9_readClause 82 = .ok (.goto 20, 3) := by decide +kernel
theorem dX9_readClause_85 : decode cX9_readClause 85 = .ok (.aload_n 0, 1) := by decide +kernel
theorem dX9_readClause_86 : decode cX9_readClause 86 = .ok (.aload_n 1, 1) := by decide +kernel
theorem dX9_readClause_87 : decode cX9_readClause 87 = .ok (.invokevirtual 68, 3) := by decide +kernel
theorem dX9_readClause_90 : decode cX9_readClause 90 = .ok (.goto 12, 3) := by decide +kernel
theorem dX9_readClause_93 : decode cX9_readClause 93 = .ok (.aload_n 0, 1) := by decide +kernel
theorem dX9_readClause_94 : decode cX9_readClause 94 = .ok (.iconst 1, 1) := by decide +kernel
theorem dX9_readClause_95 : decode cX9_readClause 95 = .ok (.aload_n 0, 1) := by decide +kernel
theorem dX9_readClause_96 : decode cX9_readClause 96 = .ok (.getfield 19, 3) := by decide +kernel
theorem dX9_readClause_99 : decode cX9_readClause 99 = .ok (.invokevirtual 71, 3) := by decide +kernel
theorem dX9_readClause_102 : decode cX9_readClause 102 = .ok (.return_, 1) := by decide +kernel
theorem dX9_readField_0 : decode cX9_readField 0 = .ok (.aload_n 0, 1) := by decide +kernel
theorem dX9_readField_1 : decode cX9_readField 1 = .ok (.aload_n 1, 1) := by decide +kernel
theorem dX9_readField_2 : decode cX9_readField 2 = .ok (.getfield 59, 3) := by decide +kernel
theorem dX9_readField_5 : decode cX9_readField 5 = .ok (.bipush 8, 2) := by decide +kernel
theorem dX9_readField_7 : decode cX9_readField 7 = .ok (.if_icmp .lt 7, 3) := by decide +kernel
theorem dX9_readField_10 : decode cX9_readField 10 = .ok (.iconst 1, 1) := by decide +kernel
theorem dX9_readField_11 : decode cX9_readField 11 = .ok (.goto 4, 3) := by decide +kernel
theorem dX9_readField_14 : decode cX9_readField 14 = .ok (.iconst 0, 1) := by decide +kernel
theorem dX9_readField_15 : decode cX9_readField 15 = .ok (.invokevirtual 75, 3) := by decide +kernel
theorem dX9_readField_18 : decode cX9_readField 18 = .ok (.aload_n 0, 1) := by decide +kernel
theorem dX9_readField_19 : decode cX9_readField 19 = .ok (.iconst 0, 1) := by decide +kernel
theorem dX9_readField_20 : decode cX9_readField 20 = .ok (.bipush 99, 2) := by decide +kernel
theorem dX9_readField_22 : decode cX9_readField 22 = .ok (.invokevirtual 79, 3) := by decide +kernel
theorem dX9_readField_25 : decode cX9_readField 25 = .ok (.istore_n 2, 1) := by decide +kernel
theorem dX9_readField_26 : decode cX9_readField 26 = .ok (.aload_n 0, 1) := by decide +kernel
theorem dX9_readField_27 : decode cX9_readField 27 = .ok (.iconst 2, 1) := by decide +kernel
theorem dX9_readField_28 : decode cX9_readField 28 = .ok (.bipush 12, 2) := by decide +kernel
theorem dX9_readField_30 : decode cX9_readField 30 = .ok (.invokevirtual 79, 3) := by decide +kernel
theorem dX9_readField_33 : decode cX9_readField 33 = .ok (.istore_n 3, 1) := by decide +kernel
theorem dX9_readField_34 : decode cX9_readField 34 = .ok (.aload_n 0, 1) := by decide +kernel
theorem dX9_readField_35 : decode cX9_readField 35 = .ok (.iconst 0, 1) := by decide +kernel
theorem dX9_readField_36 : decode cX9_readField 36 = .ok (.bipush 11, 2) := by decide +kernel
theorem dX9_readField_38 : decode cX9_readField 38 = .ok (.invokevirtual 79, 3) := by decide +kernel
theorem dX9_readField_41 : decode cX9_readField 41 = .ok (.istore 4, 2) := by decide +kernel
theorem dX9_readField_43 : decode cX9_readField 43 = .ok (.aload_n 0, 1) := by decide +kernel
theorem dX9_readField_44 : decode cX9_readField 44 = .ok (.iconst 0, 1) := by decide +kernel
theorem dX9_readField_45 : decode cX9_readField 45 = .ok (.bipush 9, 2) := by decide +kernel
theorem dX9_readField_47 : decode cX9_readField 47 = .ok (.invokevirtual 79, 3) := by decide +kernel
theorem dX9_readField_50 : decode cX9_readField 50 = .ok (.istore 5, 2) := by decide +kernel
theorem dX9_readField_52 : decode cX9_readField 52 = .ok (.aload_n 0, 1) := by decide +kernel
theorem dX9_readField_53 : decode cX9_readField 53 = .ok (.invokevirtual 83, 3) := by decide +kernel
theorem dX9_readField_56 : decode cX9_readField 56 = .ok (.aload_n 0, 1) := by decide +kernel
theorem dX9_readField_57 : decode cX9_readField 57 = .ok (.getfield 22, 3) := by decide +kernel
theorem dX9_readField_60 : decode cX9_readField 60 = .ok (.ifCond .ne 13, 3) := by decide +kernel
theorem dX9_readField_63 : decode cX9_readField 63 = .ok (.aload_n 1, 1) := by decide +kernel
theorem dX9_readField_64 : decode cX9_readField 64 = .ok (.iload_n 2, 1) := by decide +kernel
theorem dX9_readField_65 : decode cX9_readField 65 = .ok (.iload_n 3, 1) := by decide +kernel
theorem dX9_readField_66 : decode cX9_readField 66 = .ok (.iload 4, 2) := by decide +kernel
theorem dX9_readField_68 : decode cX9_readField 68 = .ok (.iload 5, 2) := by decide +kernel
theorem dX9_readField_70 : decode cX9_readField 70 = .ok (.invokevirtual 86, 3) := by decide +kernel
theorem dX9_readField_73 : decode cX9_readField 73 = .ok (.return_, 1) := by decide +kernel
theorem dX9_readHouse_0 : decode cX9_readHouse 0 = .ok (.aload_n 0, 1) := by decide +kernel
theorem dX9_readHouse_1 : decode cX9_readHouse 1 = .ok (.aload_n 1, 1) := by decide +kernel
theorem dX9_readHouse_2 : decode cX9_readHouse 2 = .ok (.getfield 90, 3) := by decide +kernel
theorem dX9_readHouse_5 : decode cX9_readHouse 5 = .ok (.iconst 4, 1) := by decide +kernel
theorem dX9_readHouse_6 : decode cX9_readHouse 6 = .ok (.if_icmp .lt 7, 3) := by decide +kernel
theorem dX9_readHouse_9 : decode cX9_readHouse 9 = .ok (.iconst 1, 1) := by decide +kernel
theorem dX9_readHouse_10 : decode cX9_readHouse 10 = .ok (.goto 4, 3) := by decide +kernel
theorem dX9_readHouse_13 : decode cX9_readHouse 13 = .ok (.iconst 0, 1) := by decide +kernel
theorem dX9_readHouse_14 : decode cX9_readHouse 14 = .ok (.invokevirtual 75, 3) := by decide +kernel
theorem dX9_readHouse_17 : decode cX9_readHouse 17 = .ok (.aload_n 0, 1) := by decide +kernel
theorem dX9_readHouse_18 : decode cX9_readHouse 18 = .ok (.iconst 0, 1) := by decide +kernel
theorem dX9_readHouse_19 : decode cX9_readHouse 19 = .ok (.aload_n 1, 1) := by decide +kernel
theorem dX9_readHouse_20 : decode cX9_readHouse 20 = .ok (.getfield 44, 3) := by decide +kernel
theorem dX9_readHouse_23 : decode cX9_readHouse 23 = .ok (.getfield 59, 3) := by decide +kernel
theorem dX9_readHouse_26 : decode cX9_readHouse 26 = .ok (.iconst 2, 1) := by decide +kernel
theorem dX9_readHouse_27 : decode cX9_readHouse 27 = .ok (.isub, 1) := by decide +kernel
theorem dX9_readHouse_28 : decode cX9_readHouse 28 = .ok (.invokevirtual 79, 3) := by decide +kernel
theorem dX9_readHouse_31 : decode cX9_readHouse 31 = .ok (.istore_n 2, 1) := by decide +kernel
theorem dX9_readHouse_32 : decode cX9_readHouse 32 = .ok (.aload_n 0, 1) := by decide +kernel
theorem dX9_readHouse_33 : decode cX9_readHouse 33 = .ok (.iconst 0, 1) := by decide +kernel
theorem dX9_readHouse_34 : decode cX9_readHouse 34 = .ok (.bipush 99, 2) := by decide +kernel
theorem dX9_readHouse_36 : decode cX9_readHouse 36 = .ok (.invokevirtual 79, 3) := by decide +kernel
theorem dX9_readHouse_39 : decode cX9_readHouse 39 = .ok (.istore_n 3, 1) := by decide +kernel
theorem dX9_readHouse_40 : decode cX9_readHouse 40 = .ok (.aload_n 0, 1) := by decide +kernel
theorem dX9_readHouse_41 : decode cX9_readHouse 41 = .ok (.invokevirtual 83, 3) := by decide +kernel
theorem dX9_readHouse_44 : decode cX9_readHouse 44 = .ok (.aload_n 0, 1) := by decide +kernel
theorem dX9_readHouse_45 : decode cX9_readHouse 45 = .ok (.getfield 22, 3) := by decide +kernel
theorem dX9_readHouse_48 : decode cX9_readHouse 48 = .ok (.ifCond .ne 9, 3) := by decide +kernel
theorem dX9_readHouse_51 : decode cX9_readHouse 51 = .ok (.aload_n 1, 1) := by decide +kernel
theorem dX9_readHouse_52 : decode cX9_readHouse 52 = .ok (.iload_n 2, 1) := by decide +kernel
theorem dX9_readHouse_53 : decode cX9_readHouse 53 = .ok (.iload_n 3, 1) := by decide +kernel
theorem dX9_readHouse_54 : decode cX9_readHouse 54 = .ok (.invokevirtual 93, 3) := by decide +kernel
theorem dX9_readHouse_57 : decode cX9_readHouse 57 = .ok (.return_, 1) := by decide +kernel
theorem dX9_readSeam_0 : decode cX9_readSeam 0 = .ok (.aload_n 0, 1) := by decide +kernel
theorem dX9_readSeam_1 : decode cX9_readSeam 1 = .ok (.aload_n 1, 1) := by decide +kernel
theorem dX9_readSeam_2 : decode cX9_readSeam 2 = .ok (.getfield 96, 3) := by decide +kernel
theorem dX9_readSeam_5 : decode cX9_readSeam 5 = .ok (.iconst 4, 1) := by decide +kernel
theorem dX9_readSeam_6 : decode cX9_readSeam 6 = .ok (.if_icmp .lt 7, 3) := by decide +kernel
theorem dX9_readSeam_9 : decode cX9_readSeam 9 = .ok (.iconst 1, 1) := by decide +kernel
theorem dX9_readSeam_10 : decode cX9_readSeam 10 = .ok (.goto 4, 3) := by decide +kernel
theorem dX9_readSeam_13 : decode cX9_readSeam 13 = .ok (.iconst 0, 1) := by decide +kernel
theorem dX9_readSeam_14 : decode cX9_readSeam 14 = .ok (.invokevirtual 75, 3) := by decide +kernel
theorem dX9_readSeam_17 : decode cX9_readSeam 17 = .ok (.aload_n 0, 1) := by decide +kernel
theorem dX9_readSeam_18 : decode cX9_readSeam 18 = .ok (.iconst 0, 1) := by decide +kernel
theorem dX9_readSeam_19 : decode cX9_readSeam 19 = .ok (.iload_n 2, 1) := by decide +kernel
theorem dX9_readSeam_20 : decode cX9_readSeam 20 = .ok (.iconst 2, 1) := by decide +kernel
theorem dX9_readSeam_21 : decode cX9_readSeam 21 = .ok (.isub, 1) := by decide +kernel
theorem dX9_readSeam_22 : decode cX9_readSeam 22 = .ok (.invokevirtual 79, 3) := by decide +kernel
theorem dX9_readSeam_25 : decode cX9_readSeam 25 = .ok (.istore_n 3, 1) := by decide +kernel
theorem dX9_readSeam_26 : decode cX9_readSeam 26 = .ok (.aload_n 0, 1) := by decide +kernel
theorem dX9_readSeam_27 : decode cX9_readSeam 27 = .ok (.iconst 1, 1) := by decide +kernel
theorem dX9_readSeam_28 : decode cX9_readSeam 28 = .ok (.bipush 12, 2) := by decide +kernel
theorem dX9_readSeam_30 : decode cX9_readSeam 30 = .ok (.invokevirtual 79, 3) := by decide +kernel
theorem dX9_readSeam_33 : decode cX9_readSeam 33 = .ok (.istore 4, 2) := by decide +kernel
theorem dX9_readSeam_35 : decode cX9_readSeam 35 = .ok (.aload_n 0, 1) := by decide +kernel
theorem dX9_readSeam_36 : decode cX9_readSeam 36 = .ok (.iconst 0, 1) := by decide +kernel
theorem dX9_readSeam_37 : decode cX9_readSeam 37 = .ok (.bipush 11, 2) := by decide +kernel
theorem dX9_readSeam_39 : decode cX9_readSeam 39 = .ok (.invokevirtual 79, 3) := by decide +kernel
theorem dX9_readSeam_42 : decode cX9_readSeam 42 = .ok (.istore 5, 2) := by decide +kernel
theorem dX9_readSeam_44 : decode cX9_readSeam 44 = .ok (.aload_n 0, 1) := by decide +kernel
theorem dX9_readSeam_45 : decode cX9_readSeam 45 = .ok (.iconst 0, 1) := by decide +kernel
theorem dX9_readSeam_46 : decode cX9_readSeam 46 = .ok (.bipush 12, 2) := by decide +kernel
theorem dX9_readSeam_48 : decode cX9_readSeam 48 = .ok (.invokevirtual 79, 3) := by decide +kernel
theorem dX9_readSeam_51 : decode cX9_readSeam 51 = .ok (.istore 6, 2) := by decide +kernel
theorem dX9_readSeam_53 : decode cX9_readSeam 53 = .ok (.aload_n 0, 1) := by decide +kernel
theorem dX9_readSeam_54 : decode cX9_readSeam 54 = .ok (.invokevirtual 83, 3) := by decide +kernel
theorem dX9_readSeam_57 : decode cX9_readSeam 57 = .ok (.aload_n 0, 1) := by decide +kernel
theorem dX9_readSeam_58 : decode cX9_readSeam 58 = .ok (.getfield 22, 3) := by decide +kernel
theorem dX9_readSeam_61 : decode cX9_readSeam 61 = .ok (.ifCond .ne 14, 3) := by decide +kernel
theorem dX9_readSeam_64 : decode cX9_readSeam 64 = .ok (.aload_n 1, 1) := by decide +kernel
theorem dX9_readSeam_65 : decode cX9_readSeam 65 = .ok (.iload_n 3, 1) := by decide +kernel
theorem dX9_readSeam_66 : decode cX9_readSeam 66 = .ok (.iload 4, 2) := by decide +kernel
theorem dX9_readSeam_68 : decode cX9_readSeam 68 = .ok (.iload 5, 2) := by decide +kernel
theorem dX9_readSeam_70 : decode cX9_readSeam 70 = .ok (.iload 6, 2) := by decide +kernel
theorem dX9_readSeam_72 : decode cX9_readSeam 72 = .ok (.invokevirtual 99, 3) := by decide +kernel
theorem dX9_readSeam_75 : decode cX9_readSeam 75 = .ok (.return_, 1) := by decide +kernel
theorem dX9_readBarrel_0 : decode cX9_readBarrel 0 = .ok (.aload_n 0, 1) := by decide +kernel
theorem dX9_readBarrel_1 : decode cX9_readBarrel 1 = .ok (.aload_n 1, 1) := by decide +kernel
theorem dX9_readBarrel_2 : decode cX9_readBarrel 2 = .ok (.getfield 100, 3) := by decide +kernel
theorem dX9_readBarrel_5 : decode cX9_readBarrel 5 = .ok (.iconst (-1), 1) := by decide +kernel
theorem dX9_readBarrel_6 : decode cX9_readBarrel 6 = .ok (.if_icmp .eq 7, 3) := by decide +kernel
theorem dX9_readBarrel_9 : decode cX9_readBarrel 9 = .ok (.iconst 1, 1) := by decide +kernel
theorem dX9_readBarrel_10 : decode cX9_readBarrel 10 = .ok (.goto 4, 3) := by decide +kernel
theorem dX9_readBarrel_13 : decode cX9_readBarrel 13 = .ok (.iconst 0, 1) := by decide +kernel
theorem dX9_readBarrel_14 : decode cX9_readBarrel 14 = .ok (.invokevirtual 75, 3) := by decide +kernel
theorem dX9_readBarrel_17 : decode cX9_readBarrel 17 = .ok (.aload_n 0, 1) := by decide +kernel
theorem dX9_readBarrel_18 : decode cX9_readBarrel 18 = .ok (.iconst 0, 1) := by decide +kernel
theorem dX9_readBarrel_19 : decode cX9_readBarrel 19 = .ok (.aload_n 1, 1) := by decide +kernel
theorem dX9_readBarrel_20 : decode cX9_readBarrel 20 = .ok (.getfield 44, 3) := by decide +kernel
theorem dX9_readBarrel_23 : decode cX9_readBarrel 23 = .ok (.getfield 59, 3) := by decide +kernel
theorem dX9_readBarrel_26 : decode cX9_readBarrel 26 = .ok (.iconst 1, 1) := by decide +kernel
theorem dX9_readBarrel_27 : decode cX9_readBarrel 27 = .ok (.isub, 1) := by decide +kernel
theorem dX9_readBarrel_28 : decode cX9_readBarrel 28 = .ok (.invokevirtual 79, 3) := by decide +kernel
theorem dX9_readBarrel_31 : decode cX9_readBarrel 31 = .ok (.istore_n 2, 1) := by decide +kernel
theorem dX9_readBarrel_32 : decode cX9_readBarrel 32 = .ok (.aload_n 0, 1) := by decide +kernel
theorem dX9_readBarrel_33 : decode cX9_readBarrel 33 = .ok (.invokevirtual 83, 3) := by decide +kernel
theorem dX9_readBarrel_36 : decode cX9_readBarrel 36 = .ok (.aload_n 0, 1) := by decide +kernel
theorem dX9_readBarrel_37 : decode cX9_readBarrel 37 = .ok (.getfield 22, 3) := by decide +kernel
theorem dX9_readBarrel_40 : decode cX9_readBarrel 40 = .ok (.ifCond .ne 8, 3) := by decide +kernel
theorem dX9_readBarrel_43 : decode cX9_readBarrel 43 = .ok (.aload_n 1, 1) := by decide +kernel
theorem dX9_readBarrel_44 : decode cX9_readBarrel 44 = .ok (.iload_n 2, 1) := by decide +kernel
theorem dX9_readBarrel_45 : decode cX9_readBarrel 45 = .ok (.putfield 100, 3) := by decide +kernel
theorem dX9_readBarrel_48 : decode cX9_readBarrel 48 = .ok (.return_, 1) := by decide +kernel
theorem dX9_readWord_0 : decode cX9_readWord 0 = .ok (.iload_n 1, 1) := by decide +kernel
theorem dX9_readWord_1 : decode cX9_readWord 1 = .ok (.ifCond .eq 15, 3) := by decide +kernel
theorem dX9_readWord_4 : decode cX9_readWord 4 = .ok (.aload_n 0, 1) := by decide +kernel
theorem dX9_readWord_5 : decode cX9_readWord 5 = .ok (.iconst 3, 1) := by decide +kernel
theorem dX9_readWord_6 : decode cX9_readWord 6 = .ok (.aload_n 0, 1) := by decide +kernel
theorem dX9_readWord_7 : decode cX9_readWord 7 = .ok (.getfield 19, 3) := by decide +kernel
theorem dX9_readWord_10 : decode cX9_readWord 10 = .ok (.invokevirtual 71, 3) := by decide +kernel
theorem dX9_readWord_13 : decode cX9_readWord 13 = .ok (.goto 13, 3) := by decide +kernel
theorem dX9_readWord_16 : decode cX9_readWord 16 = .ok (.aload_n 0, 1) := by decide +kernel
theorem dX9_readWord_17 : decode cX9_readWord 17 = .ok (.dup, 1) := by decide +kernel
theorem dX9_readWord_18 : decode cX9_readWord 18 = .ok (.getfield 19, 3) := by decide +kernel
theorem dX9_readWord_21 : decode cX9_readWord 21 = .ok (.iconst 1, 1) := by decide +kernel
theorem dX9_readWord_22 : decode cX9_readWord 22 = .ok (.iadd, 1) := by decide +kernel
theorem dX9_readWord_23 : decode cX9_readWord 23 = .ok (.putfield 19, 3) := by decide +kernel
theorem dX9_readWord_26 : decode cX9_readWord 26 = .ok (.return_, 1) := by decide +kernel
theorem dX9_readNumber_0 : decode cX9_readNumber 0 = .ok (.aload_n 0, 1) := by decide +kernel
theorem dX9_readNumber_1 : decode cX9_readNumber 1 = .ok (.getfield 22, 3) := by decide +kernel
theorem dX9_readNumber_4 : decode cX9_readNumber 4 = .ok (.ifCond .eq 5, 3) := by decide +kernel
theorem dX9_readNumber_7 : decode cX9_readNumber 7 = .ok (.iconst 0, 1) := by decide +kernel
theorem dX9_readNumber_8 : decode cX9_readNumber 8 = .ok (.ireturn, 1) := by decide +kernel
theorem dX9_readNumber_9 : decode cX9_readNumber 9 = .ok (.aload_n 0, 1) := by decide +kernel
theorem dX9_readNumber_10 : decode cX9_readNumber 10 = .ok (.invokevirtual 33, 3) := by decide +kernel
theorem dX9_readNumber_13 : decode cX9_readNumber 13 = .ok (.aload_n 0, 1) := by decide +kernel
theorem dX9_readNumber_14 : decode cX9_readNumber 14 = .ok (.getfield 19, 3) := by decide +kernel
theorem dX9_readNumber_17 : decode cX9_readNumber 17 = .ok (.istore_n 3, 1) := by decide +kernel
theorem dX9_readNumber_18 : decode cX9_readNumber 18 = .ok (.iconst 0, 1) := by decide +kernel
theorem dX9_readNumber_19 : decode cX9_readNumber 19 = .ok (.istore 4, 2) := by decide +kernel
theorem dX9_readNumber_21 : decode cX9_readNumber 21 = .ok (.aload_n 0, 1) := by decide +kernel
theorem dX9_readNumber_22 : decode cX9_readNumber 22 = .ok (.getfield 19, 3) := by decide +kernel
theorem dX9_readNumber_25 : decode cX9_readNumber 25 = .ok (.aload_n 0, 1) := by decide +kernel
theorem dX9_readNumber_26 : decode cX9_readNumber 26 = .ok (.getfield 15, 3) := by decide +kernel
theorem dX9_readNumber_29 : decode cX9_readNumber 29 = .ok (.if_icmp .ge 51, 3) := by decide +kernel
theorem dX9_readNumber_32 : decode cX9_readNumber 32 = .ok (.aload_n 0, 1) := by decide +kernel
theorem dX9_readNumber_33 : decode cX9_readNumber 33 = .ok (.invokevirtual 40, 3) := by decide +kernel
theorem dX9_readNumber_36 : decode cX9_readNumber 36 = .ok (.invokestatic 103, 3) := by decide +kernel
theorem dX9_readNumber_39 : decode cX9_readNumber 39 = .ok (.ifCond .eq 41, 3) := by decide +kernel
theorem dX9_readNumber_42 : decode cX9_readNumber 42 = .ok (.aload_n 0, 1) := by decide +kernel
theorem dX9_readNumber_43 : decode cX9_readNumber 43 = .ok (.getfield 19, 3) := by decide +kernel
theorem dX9_readNumber_46 : decode cX9_readNumber 46 = .ok (.iload_n 3, 1) := by decide +kernel
theorem dX9_readNumber_47 : decode cX9_readNumber 47 = .ok (.isub, 1) := by decide +kernel
theorem dX9_readNumber_48 : decode cX9_readNumber 48 = .ok (.iconst 3, 1) := by decide +kernel
theorem dX9_readNumber_49 : decode cX9_readNumber 49 = .ok (.if_icmp .ge 18, 3) := by decide +kernel
theorem dX9_readNumber_52 : decode cX9_readNumber 52 = .ok (.iload 4, 2) := by decide +kernel
theorem dX9_readNumber_54 : decode cX9_readNumber 54 = .ok (.bipush 10, 2) := by decide +kernel
theorem dX9_readNumber_56 : decode cX9_readNumber 56 = .ok (.imul, 1) := by decide +kernel
theorem dX9_readNumber_57 : decode cX9_readNumber 57 = .ok (.aload_n 0, 1) := by decide +kernel
theorem dX9_readNumber_58 : decode cX9_readNumber 58 = .ok (.invokevirtual 40, 3) := by decide +kernel
theorem dX9_readNumber_61 : decode cX9_readNumber 61 = .ok (.iadd, 1) := by decide +kernel
theorem dX9_readNumber_62 : decode cX9_readNumber 62 = .ok (.bipush 48, 2) := by decide +kernel
theorem dX9_readNumber_64 : decode cX9_readNumber 64 = .ok (.isub, 1) := by decide +kernel
theorem dX9_readNumber_65 : decode cX9_readNumber 65 = .ok (.istore 4, 2) := by decide +kernel
theorem dX9_readNumber_67 : decode cX9_readNumber 67 = .ok (.aload_n 0, 1) := by decide +kernel
theorem dX9_readNumber_68 : decode cX9_readNumber 68 = .ok (.dup, 1) := by decide +kernel
theorem dX9_readNumber_69 : decode cX9_readNumber 69 = .ok (.getfield 19, 3) := by decide +kernel
theorem dX9_readNumber_72 : decode cX9_readNumber 72 = .ok (.iconst 1, 1) := by decide +kernel
theorem dX9_readNumber_73 : decode cX9_readNumber 73 = .ok (.iadd, 1) := by decide +kernel
theorem dX9_readNumber_74 : decode cX9_readNumber 74 = .ok (.putfield 19, 3) := by decide +kernel
theorem dX9_readNumber_77 : decode cX9_readNumber 77 = .ok (.goto (-56), 3) := by decide +kernel
theorem dX9_readNumber_80 : decode cX9_readNumber 80 = .ok (.aload_n 0, 1) := by decide +kernel
theorem dX9_readNumber_81 : decode cX9_readNumber 81 = .ok (.getfield 19, 3) := by decide +kernel
theorem dX9_readNumber_84 : decode cX9_readNumber 84 = .ok (.iload_n 3, 1) := by decide +kernel
theorem dX9_readNumber_85 : decode cX9_readNumber 85 = .ok (.if_icmp .ne 15, 3) := by decide +kernel
theorem dX9_readNumber_88 : decode cX9_readNumber 88 = .ok (.aload_n 0, 1) := by decide +kernel
theorem dX9_readNumber_89 : decode cX9_readNumber 89 = .ok (.iconst 1, 1) := by decide +kernel
theorem dX9_readNumber_90 : decode cX9_readNumber 90 = .ok (.aload_n 0, 1) := by decide +kernel
theorem dX9_readNumber_91 : decode cX9_readNumber 91 = .ok (.getfield 19, 3) := by decide +kernel
theorem dX9_readNumber_94 : decode cX9_readNumber 94 = .ok (.invokevirtual 71, 3) := by decide +kernel
theorem dX9_readNumber_97 : decode cX9_readNumber 97 = .ok (.goto 29, 3) := by decide +kernel
theorem dX9_readNumber_100 : decode cX9_readNumber 100 = .ok (.aload_n 0, 1) := by decide +kernel
theorem dX9_readNumber_101 : decode cX9_readNumber 101 = .ok (.getfield 19, 3) := by decide +kernel
theorem dX9_readNumber_104 : decode cX9_readNumber 104 = .ok (.iload_n 3, 1) := by decide +kernel
theorem dX9_readNumber_105 : decode cX9_readNumber 105 = .ok (.isub, 1) := by decide +kernel
theorem dX9_readNumber_106 : decode cX9_readNumber 106 = .ok (.iconst 3, 1) := by decide +kernel
theorem dX9_readNumber_107 : decode cX9_readNumber 107 = .ok (.if_icmp .gt 13, 3) := by decide +kernel
theorem dX9_readNumber_110 : decode cX9_readNumber 110 = .ok (.iload 4, 2) := by decide +kernel
theorem dX9_readNumber_112 : decode cX9_readNumber 112 = .ok (.iload_n 1, 1) := by decide +kernel
theorem dX9_readNumber_113 : decode cX9_readNumber 113 = .ok (.iload_n 2, 1) := by decide +kernel
theorem dX9_readNumber_114 : decode cX9_readNumber 114 = .ok (.invokestatic 107, 3) := by decide +kernel
theorem dX9_readNumber_117 : decode cX9_readNumber 117 = .ok (.ifCond .eq 9, 3) := by decide +kernel
theorem dX9_readNumber_120 : decode cX9_readNumber 120 = .ok (.aload_n 0, 1) := by decide +kernel
theorem dX9_readNumber_121 : decode cX9_readNumber 121 = .ok (.iconst 2, 1) := by decide +kernel
theorem dX9_readNumber_122 : decode cX9_readNumber 122 = .ok (.iload_n 3, 1) := by decide +kernel
theorem dX9_readNumber_123 : decode cX9_readNumber 123 = .ok (.invokevirtual 71, 3) := by decide +kernel
theorem dX9_readNumber_126 : decode cX9_readNumber 126 = .ok (.iload 4, 2) := by decide +kernel
theorem dX9_readNumber_128 : decode cX9_readNumber 128 = .ok (.ireturn, 1) := by decide +kernel
theorem dX9_readEnd_0 : decode cX9_readEnd 0 = .ok (.aload_n 0, 1) := by decide +kernel
theorem dX9_readEnd_1 : decode cX9_readEnd 1 = .ok (.getfield 22, 3) := by decide +kernel
theorem dX9_readEnd_4 : decode cX9_readEnd 4 = .ok (.ifCond .eq 4, 3) := by decide +kernel
theorem dX9_readEnd_7 : decode cX9_readEnd 7 = .ok (.return_, 1) := by decide +kernel
theorem dX9_readEnd_8 : decode cX9_readEnd 8 = .ok (.aload_n 0, 1) := by decide +kernel
theorem dX9_readEnd_9 : decode cX9_readEnd 9 = .ok (.invokevirtual 33, 3) := by decide +kernel
theorem dX9_readEnd_12 : decode cX9_readEnd 12 = .ok (.aload_n 0, 1) := by decide +kernel
theorem dX9_readEnd_13 : decode cX9_readEnd 13 = .ok (.invokevirtual 40, 3) := by decide +kernel
theorem dX9_readEnd_16 : decode cX9_readEnd 16 = .ok (.bipush 59, 2) := by decide +kernel
theorem dX9_readEnd_18 : decode cX9_readEnd 18 = .ok (.if_icmp .ne 16, 3) := by decide +kernel
theorem dX9_readEnd_21 : decode cX9_readEnd 21 = .ok (.aload_n 0, 1) := by decide +kernel
theorem dX9_readEnd_22 : decode cX9_readEnd 22 = .ok (.dup, 1) := by decide +kernel
theorem dX9_readEnd_23 : decode cX9_readEnd 23 = .ok (.getfield 19, 3) := by decide +kernel
theorem dX9_readEnd_26 : decode cX9_readEnd 26 = .ok (.iconst 1, 1) := by decide +kernel
theorem dX9_readEnd_27 : decode cX9_readEnd 27 = .ok (.iadd, 1) := by decide +kernel
theorem dX9_readEnd_28 : decode cX9_readEnd 28 = .ok (.putfield 19, 3) := by decide +kernel
theorem dX9_readEnd_31 : decode cX9_readEnd 31 = .ok (.goto 12, 3) := by decide +kernel
theorem dX9_readEnd_34 : decode cX9_readEnd 34 = .ok (.aload_n 0, 1) := by decide +kernel
theorem dX9_readEnd_35 : decode cX9_readEnd 35 = .ok (.iconst 1, 1) := by decide +kernel
theorem dX9_readEnd_36 : decode cX9_readEnd 36 = .ok (.aload_n 0, 1) := by decide +kernel
theorem dX9_readEnd_37 : decode cX9_readEnd 37 = .ok (.getfield 19, 3) := by decide +kernel
theorem dX9_readEnd_40 : decode cX9_readEnd 40 = .ok (.invokevirtual 71, 3) := by decide +kernel
theorem dX9_readEnd_43 : decode cX9_readEnd 43 = .ok (.return_, 1) := by decide +kernel
theorem dX9_skipBlanks_0 : decode cX9_skipBlanks 0 = .ok (.aload_n 0, 1) := by decide +kernel
theorem dX9_skipBlanks_1 : decode cX9_skipBlanks 1 = .ok (.getfield 19, 3) := by decide +kernel
theorem dX9_skipBlanks_4 : decode cX9_skipBlanks 4 = .ok (.aload_n 0, 1) := by decide +kernel
theorem dX9_skipBlanks_5 : decode cX9_skipBlanks 5 = .ok (.getfield 15, 3) := by decide +kernel
theorem dX9_skipBlanks_8 : decode cX9_skipBlanks 8 = .ok (.if_icmp .ge 25, 3) := by decide +kernel
theorem dX9_skipBlanks_11 : decode cX9_skipBlanks 11 = .ok (.aload_n 0, 1) := by decide +kernel
theorem dX9_skipBlanks_12 : decode cX9_skipBlanks 12 = .ok (.invokevirtual 40, 3) := by decide +kernel
theorem dX9_skipBlanks_15 : decode cX9_skipBlanks 15 = .ok (.bipush 32, 2) := by decide +kernel
theorem dX9_skipBlanks_17 : decode cX9_skipBlanks 17 = .ok (.if_icmp .ne 16, 3) := by decide +kernel
theorem dX9_skipBlanks_20 : decode cX9_skipBlanks 20 = .ok (.aload_n 0, 1) := by decide +kernel
theorem dX9_skipBlanks_21 : decode cX9_skipBlanks 21 = .ok (.dup, 1) := by decide +kernel
theorem dX9_skipBlanks_22 : decode cX9_skipBlanks 22 = .ok (.getfield 19, 3) := by decide +kernel
theorem dX9_skipBlanks_25 : decode cX9_skipBlanks 25 = .ok (.iconst 1, 1) := by decide +kernel
theorem dX9_skipBlanks_26 : decode cX9_skipBlanks 26 = .ok (.iadd, 1) := by decide +kernel
theorem dX9_skipBlanks_27 : decode cX9_skipBlanks 27 = .ok (.putfield 19, 3) := by decide +kernel
theorem dX9_skipBlanks_30 : decode cX9_skipBlanks 30 = .ok (.goto (-30), 3) := by decide +kernel
theorem dX9_skipBlanks_33 : decode cX9_skipBlanks 33 = .ok (.return_, 1) := by decide +kernel
theorem dX9_letterHere_0 : decode cX9_letterHere 0 = .ok (.aload_n 0, 1) := by decide +kernel
theorem dX9_letterHere_1 : decode cX9_letterHere 1 = .ok (.getfield 19, 3) := by decide +kernel
theorem dX9_letterHere_4 : decode cX9_letterHere 4 = .ok (.ifCond .lt 36, 3) := by decide +kernel
theorem dX9_letterHere_7 : decode cX9_letterHere 7 = .ok (.aload_n 0, 1) := by decide +kernel
theorem dX9_letterHere_8 : decode cX9_letterHere 8 = .ok (.getfield 19, 3) := by decide +kernel
theorem dX9_letterHere_11 : decode cX9_letterHere 11 = .ok (.aload_n 0, 1) := by decide +kernel
theorem dX9_letterHere_12 : decode cX9_letterHere 12 = .ok (.getfield 15, 3) := by decide +kernel
theorem dX9_letterHere_15 : decode cX9_letterHere 15 = .ok (.if_icmp .ge 25, 3) := by decide +kernel
theorem dX9_letterHere_18 : decode cX9_letterHere 18 = .ok (.aload_n 0, 1) := by decide +kernel
theorem dX9_letterHere_19 : decode cX9_letterHere 19 = .ok (.getfield 19, 3) := by decide +kernel
theorem dX9_letterHere_22 : decode cX9_letterHere 22 = .ok (.sipush 250, 3) := by decide +kernel
theorem dX9_letterHere_25 : decode cX9_letterHere 25 = .ok (.if_icmp .ge 15, 3) := by decide +kernel
theorem dX9_letterHere_28 : decode cX9_letterHere 28 = .ok (.aload_n 0, 1) := by decide +kernel
theorem dX9_letterHere_29 : decode cX9_letterHere 29 = .ok (.getfield 9, 3) := by decide +kernel
theorem dX9_letterHere_32 : decode cX9_letterHere 32 = .ok (.aload_n 0, 1) := by decide +kernel
theorem dX9_letterHere_33 : decode cX9_letterHere 33 = .ok (.getfield 19, 3) := by decide +kernel
theorem dX9_letterHere_36 : decode cX9_letterHere 36 = .ok (.iaload, 1) := by decide +kernel
theorem dX9_letterHere_37 : decode cX9_letterHere 37 = .ok (.goto 4, 3) := by decide +kernel
theorem dX9_letterHere_40 : decode cX9_letterHere 40 = .ok (.iconst (-1), 1) := by decide +kernel
theorem dX9_letterHere_41 : decode cX9_letterHere 41 = .ok (.ireturn, 1) := by decide +kernel
theorem dX9_isFigure_0 : decode cX9_isFigure 0 = .ok (.iload_n 0, 1) := by decide +kernel
theorem dX9_isFigure_1 : decode cX9_isFigure 1 = .ok (.bipush 48, 2) := by decide +kernel
theorem dX9_isFigure_3 : decode cX9_isFigure 3 = .ok (.if_icmp .lt 13, 3) := by decide +kernel
theorem dX9_isFigure_6 : decode cX9_isFigure 6 = .ok (.iload_n 0, 1) := by decide +kernel
theorem dX9_isFigure_7 : decode cX9_isFigure 7 = .ok (.bipush 57, 2) := by decide +kernel
theorem dX9_isFigure_9 : decode cX9_isFigure 9 = .ok (.if_icmp .gt 7, 3) := by decide +kernel
theorem dX9_isFigure_12 : decode cX9_isFigure 12 = .ok (.iconst 1, 1) := by decide +kernel
theorem dX9_isFigure_13 : decode cX9_isFigure 13 = .ok (.goto 4, 3) := by decide +kernel
theorem dX9_isFigure_16 : decode cX9_isFigure 16 = .ok (.iconst 0, 1) := by decide +kernel
theorem dX9_isFigure_17 : decode cX9_isFigure 17 = .ok (.ireturn, 1) := by decide +kernel
theorem dX9_blame_0 : decode cX9_blame 0 = .ok (.aload_n 0, 1) := by decide +kernel
theorem dX9_blame_1 : decode cX9_blame 1 = .ok (.iload_n 1, 1) := by decide +kernel
theorem dX9_blame_2 : decode cX9_blame 2 = .ok (.putfield 22, 3) := by decide +kernel
theorem dX9_blame_5 : decode cX9_blame 5 = .ok (.aload_n 0, 1) := by decide +kernel
theorem dX9_blame_6 : decode cX9_blame 6 = .ok (.iload_n 2, 1) := by decide +kernel
theorem dX9_blame_7 : decode cX9_blame 7 = .ok (.putfield 25, 3) := by decide +kernel
theorem dX9_blame_10 : decode cX9_blame 10 = .ok (.return_, 1) := by decide +kernel
theorem dX10_init_0 : decode cX10_init 0 = .ok (.aload_n 0, 1) := by decide +kernel
theorem dX10_init_1 : decode cX10_init 1 = .ok (.invokespecial 3, 3) := by decide +kernel
theorem dX10_init_4 : decode cX10_init 4 = .ok (.aload_n 0, 1) := by decide +kernel
theorem dX10_init_5 : decode cX10_init 5 = .ok (.bipush 40, 2) := by decide +kernel
theorem dX10_init_7 : decode cX10_init 7 = .ok (.newarray .int, 2) := by decide +kernel
theorem dX10_init_9 : decode cX10_init 9 = .ok (.putfield 9, 3) := by decide +kernel
theorem dX10_init_12 : decode cX10_init 12 = .ok (.aload_n 0, 1) := by decide +kernel
theorem dX10_init_13 : decode cX10_init 13 = .ok (.bipush 40, 2) := by decide +kernel
theorem dX10_init_15 : decode cX10_init 15 = .ok (.newarray .int, 2) := by decide +kernel
theorem dX10_init_17 : decode cX10_init 17 = .ok (.putfield 15, 3) := by decide +kernel
theorem dX10_init_20 : decode cX10_init 20 = .ok (.aload_n 0, 1) := by decide +kernel
theorem dX10_init_21 : decode cX10_init 21 = .ok (.bipush 40, 2) := by decide +kernel
theorem dX10_init_23 : decode cX10_init 23 = .ok (.newarray .int, 2) := by decide +kernel
theorem dX10_init_25 : decode cX10_init 25 = .ok (.putfield 18, 3) := by decide +kernel
theorem dX10_init_28 : decode cX10_init 28 = .ok (.aload_n 0, 1) := by decide +kernel
theorem dX10_init_29 : decode cX10_init 29 = .ok (.bipush 40, 2) := by decide +kernel
theorem dX10_init_31 : decode cX10_init 31 = .ok (.newarray .int, 2) := by decide +kernel
theorem dX10_init_33 : decode cX10_init 33 = .ok (.putfield 21, 3) := by decide +kernel
theorem dX10_init_36 : decode cX10_init 36 = .ok (.aload_n 0, 1) := by decide +kernel
theorem dX10_init_37 : decode cX10_init 37 = .ok (.iconst 0, 1) := by decide +kernel
theorem dX10_init_38 : decode cX10_init 38 = .ok (.putfield 24, 3) := by decide +kernel
theorem dX10_init_41 : decode cX10_init 41 = .ok (.aload_n 0, 1) := by decide +kernel
theorem dX10_init_42 : decode cX10_init 42 = .ok (.iconst 0, 1) := by decide +kernel
theorem dX10_init_43 : decode cX10_init 43 = .ok (.putfield 28, 3) := by decide +kernel
theorem dX10_init_46 : decode cX10_init 46 = .ok (.return_, 1) := by decide +kernel
theorem dX10_note_0 : decode cX10_note 0 = .ok (.aload_n 0, 1) := by decide +kernel
theorem dX10_note_1 : decode cX10_note 1 = .ok (.getfield 24, 3) := by decide +kernel
theorem dX10_note_4 : decode cX10_note 4 = .ok (.iconst 0, 1) := by decide +kernel
theorem dX10_note_5 : decode cX10_note 5 = .ok (.bipush 39, 2) := by decide +kernel
theorem dX10_note_7 : decode cX10_note 7 = .ok (.invokestatic 31, 3) := by decide +kernel
theorem dX10_note_10 : decode cX10_note 10 = .ok (.ifCond .eq 8, 3) := by decide +kernel
theorem dX10_note_13 : decode cX10_note 13 = .ok (.aload_n 0, 1) := by decide +kernel
theorem dX10_note_14 : decode cX10_note 14 = .ok (.iconst 0, 1) := by decide +kernel
theorem dX10_note_15 : decode cX10_note 15 = .ok (.putfield 24, 3) := by decide +kernel
theorem dX10_note_18 : decode cX10_note 18 = .ok (.aload_n 0, 1) := by decide +kernel
theorem dX10_note_19 : decode cX10_note 19 = .ok (.getfield 9, 3) := by decide +kernel
theorem dX10_note_22 : decode cX10_note 22 = .ok (.aload_n 0, 1) := by decide +kernel
theorem dX10_note_23 : decode cX10_note 23 = .ok (.getfield 24, 3) := by decide +kernel
theorem dX10_note_26 : decode cX10_note 26 = .ok (.aload_n 1, 1) := by decide +kernel
theorem dX10_note_27 : decode cX10_note 27 = .ok (.getfield 35, 3) := by decide +kernel
theorem dX10_note_30 : decode cX10_note 30 = .ok (.iastore, 1) := by decide +kernel
theorem dX10_note_31 : decode cX10_note 31 = .ok (.aload_n 0, 1) := by decide +kernel
theorem dX10_note_32 : decode cX10_note 32 = .ok (.getfield 15, 3) := by decide +kernel
theorem dX10_note_35 : decode cX10_note 35 = .ok (.aload_n 0, 1) := by decide +kernel
theorem dX10_note_36 : decode cX10_note 36 = .ok (.getfield 24, 3) := by decide +kernel
theorem dX10_note_39 : decode cX10_note 39 = .ok (.aload_n 1, 1) := by decide +kernel
theorem dX10_note_40 : decode cX10_note 40 = .ok (.getfield 39, 3) := by decide +kernel
theorem dX10_note_43 : decode cX10_note 43 = .ok (.iastore, 1) := by decide +kernel
theorem dX10_note_44 : decode cX10_note 44 = .ok (.aload_n 0, 1) := by decide +kernel
theorem dX10_note_45 : decode cX10_note 45 = .ok (.getfield 18, 3) := by decide +kernel
theorem dX10_note_48 : decode cX10_note 48 = .ok (.aload_n 0, 1) := by decide +kernel
theorem dX10_note_49 : decode cX10_note 49 = .ok (.getfield 24, 3) := by decide +kernel
theorem dX10_note_52 : decode cX10_note 52 = .ok (.aload_n 1, 1) := by decide +kernel
theorem dX10_note_53 : decode cX10_note 53 = .ok (.getfield 42, 3) := by decide +kernel
theorem dX10_note_56 : decode cX10_note 56 = .ok (.iastore, 1) := by decide +kernel
theorem dX10_note_57 : decode cX10_note 57 = .ok (.aload_n 0, 1) := by decide +kernel
theorem dX10_note_58 : decode cX10_note 58 = .ok (.getfield 21, 3) := by decide +kernel
theorem dX10_note_61 : decode cX10_note 61 = .ok (.aload_n 0, 1) := by decide +kernel
theorem dX10_note_62 : decode cX10_note 62 = .ok (.getfield 24, 3) := by decide +kernel
theorem dX10_note_65 : decode cX10_note 65 = .ok (.aload_n 1, 1) := by decide +kernel
theorem dX10_note_66 : decode cX10_note 66 = .ok (.getfield 45, 3) := by decide +kernel
theorem dX10_note_69 : decode cX10_note 69 = .ok (.iastore, 1) := by decide +kernel
theorem dX10_note_70 : decode cX10_note 70 = .ok (.aload_n 0, 1) := by decide +kernel
theorem dX10_note_71 : decode cX10_note 71 = .ok (.aload_n 0, 1) := by decide +kernel
theorem dX10_note_72 : decode cX10_note 72 = .ok (.getfield 24, 3) := by decide +kernel
theorem dX10_note_75 : decode cX10_note 75 = .ok (.iconst 1, 1) := by decide +kernel
theorem dX10_note_76 : decode cX10_note 76 = .ok (.iadd, 1) := by decide +kernel
theorem dX10_note_77 : decode cX10_note 77 = .ok (.bipush 40, 2) := by decide +kernel
theorem dX10_note_79 : decode cX10_note 79 = .ok (.irem, 1) := by decide +kernel
theorem dX10_note_80 : decode cX10_note 80 = .ok (.putfield 24, 3) := by decide +kernel
theorem dX10_note_83 : decode cX10_note 83 = .ok (.aload_n 0, 1) := by decide +kernel
theorem dX10_note_84 : decode cX10_note 84 = .ok (.aload_n 0, 1) := by decide +kernel
theorem dX10_note_85 : decode cX10_note 85 = .ok (.getfield 28, 3) := by decide +kernel
theorem dX10_note_88 : decode cX10_note 88 = .ok (.iconst 1, 1) := by decide +kernel
theorem dX10_note_89 : decode cX10_note 89 = .ok (.iadd, 1) := by decide +kernel
theorem dX10_note_90 : decode cX10_note 90 = .ok (.bipush 40, 2) := by decide +kernel
theorem dX10_note_92 : decode cX10_note 92 = .ok (.invokestatic 48, 3) := by decide +kernel
theorem dX10_note_95 : decode cX10_note 95 = .ok (.putfield 28, 3) := by decide +kernel
theorem dX10_note_98 : decode cX10_note 98 = .ok (.return_, 1) := by decide +kernel
theorem dX10_takeBack_0 : decode cX10_takeBack 0 = .ok (.iload_n 2, 1) := by decide +kernel
theorem dX10_takeBack_1 : decode cX10_takeBack 1 = .ok (.iconst 1, 1) := by decide +kernel
theorem dX10_takeBack_2 : decode cX10_takeBack 2 = .ok (.aload_n 0, 1) := by decide +kernel
theorem dX10_takeBack_3 : decode cX10_takeBack 3 = .ok (.getfield 28, 3) := by decide +kernel
theorem dX10_takeBack_6 : decode cX10_takeBack 6 = .ok (.invokestatic 31, 3) := by decide +kernel
theorem dX10_takeBack_9 : decode cX10_takeBack 9 = .ok (.ifCond .eq 4, 3) := by decide +kernel
theorem dX10_takeBack_12 : decode cX10_takeBack 12 = .ok (.return_, 1) := by decide +kernel
theorem dX10_takeBack_13 : decode cX10_takeBack 13 = .ok (.aload_n 0, 1) := by decide +kernel
theorem dX10_takeBack_14 : decode cX10_takeBack 14 = .ok (.aload_n 0, 1) := by decide +kernel
theorem dX10_takeBack_15 : decode cX10_takeBack 15 = .ok (.getfield 24, 3) := by decide +kernel
theorem dX10_takeBack_18 : decode cX10_takeBack 18 = .ok (.iload_n 2, 1) := by decide +kernel
theorem dX10_takeBack_19 : decode cX10_takeBack 19 = .ok (.isub, 1) := by decide +kernel
theorem dX10_takeBack_20 : decode cX10_takeBack 20 = .ok (.bipush 40, 2) := by decide +kernel
theorem dX10_takeBack_22 : decode cX10_takeBack 22 = .ok (.invokestatic 54, 3) := by decide +kernel
theorem dX10_takeBack_25 : decode cX10_takeBack 25 = .ok (.putfield 24, 3) := by decide +kernel
theorem dX10_takeBack_28 : decode cX10_takeBack 28 = .ok (.aload_n 0, 1) := by decide +kernel
theorem dX10_takeBack_29 : decode cX10_takeBack 29 = .ok (.dup, 1) := by decide +kernel
theorem dX10_takeBack_30 : decode cX10_takeBack 30 = .ok (.getfield 28, 3) := by decide +kernel
theorem dX10_takeBack_33 : decode cX10_takeBack 33 = .ok (.iload_n 2, 1) := by decide +kernel
theorem dX10_takeBack_34 : decode cX10_takeBack 34 = .ok (.isub, 1) := by decide +kernel
theorem dX10_takeBack_35 : decode cX10_takeBack 35 = .ok (.putfield 28, 3) := by decide +kernel
theorem dX10_takeBack_38 : decode cX10_takeBack 38 = .ok (.aload_n 1, 1) := by decide +kernel
theorem dX10_takeBack_39 : decode cX10_takeBack 39 = .ok (.aload_n 0, 1) := by decide +kernel
theorem dX10_takeBack_40 : decode cX10_takeBack 40 = .ok (.getfield 9, 3) := by decide +kernel
theorem dX10_takeBack_43 : decode cX10_takeBack 43 = .ok (.aload_n 0, 1) := by decide +kernel
theorem dX10_takeBack_44 : decode cX10_takeBack 44 = .ok (.getfield 24, 3) := by decide +kernel
theorem dX10_takeBack_47 : decode cX10_takeBack 47 = .ok (.iaload, 1) := by decide +kernel
theorem dX10_takeBack_48 : decode cX10_takeBack 48 = .ok (.putfield 35, 3) := by decide +kernel
theorem dX10_takeBack_51 : decode cX10_takeBack 51 = .ok (.aload_n 1, 1) := by decide +kernel
theorem dX10_takeBack_52 : decode cX10_takeBack 52 = .ok (.aload_n 0, 1) := by decide +kernel
theorem dX10_takeBack_53 : decode cX10_takeBack 53 = .ok (.getfield 15, 3) := by decide +kernel
theorem dX10_takeBack_56 : decode cX10_takeBack 56 = .ok (.aload_n 0, 1) := by decide +kernel
theorem dX10_takeBack_57 : decode cX10_takeBack 57 = .ok (.getfield 24, 3) := by decide +kernel
theorem dX10_takeBack_60 : decode cX10_takeBack 60 = .ok (.iaload, 1) := by decide +kernel
theorem dX10_takeBack_61 : decode cX10_takeBack 61 = .ok (.putfield 39, 3) := by decide +kernel
theorem dX10_takeBack_64 : decode cX10_takeBack 64 = .ok (.aload_n 1, 1) := by decide +kernel
theorem dX10_takeBack_65 : decode cX10_takeBack 65 = .ok (.aload_n 0, 1) := by decide +kernel
theorem dX10_takeBack_66 : decode cX10_takeBack 66 = .ok (.getfield 18, 3) := by decide +kernel
theorem dX10_takeBack_69 : decode cX10_takeBack 69 = .ok (.aload_n 0, 1) := by decide +kernel
theorem dX10_takeBack_70 : decode cX10_takeBack 70 = .ok (.getfield 24, 3) := by decide +kernel
theorem dX10_takeBack_73 : decode cX10_takeBack 73 = .ok (.iaload, 1) := by decide +kernel
theorem dX10_takeBack_74 : decode cX10_takeBack 74 = .ok (.putfield 42, 3) := by decide +kernel
theorem dX10_takeBack_77 : decode cX10_takeBack 77 = .ok (.aload_n 1, 1) := by decide +kernel
theorem dX10_takeBack_78 : decode cX10_takeBack 78 = .ok (.aload_n 0, 1) := by decide +kernel
theorem dX10_takeBack_79 : decode cX10_takeBack 79 = .ok (.getfield 21, 3) := by decide +kernel
theorem dX10_takeBack_82 : decode cX10_takeBack 82 = .ok (.aload_n 0, 1) := by decide +kernel
theorem dX10_takeBack_83 : decode cX10_takeBack 83 = .ok (.getfield 24, 3) := by decide +kernel
theorem dX10_takeBack_86 : decode cX10_takeBack 86 = .ok (.iaload, 1) := by decide +kernel
theorem dX10_takeBack_87 : decode cX10_takeBack 87 = .ok (.putfield 45, 3) := by decide +kernel
theorem dX10_takeBack_90 : decode cX10_takeBack 90 = .ok (.return_, 1) := by decide +kernel
theorem dX11_init_0 : decode cX11_init 0 = .ok (.aload_n 0, 1) := by decide +kernel
theorem dX11_init_1 : decode cX11_init 1 = .ok (.invokespecial 1, 3) := by decide +kernel
theorem dX11_init_4 : decode cX11_init 4 = .ok (.aload_n 0, 1) := by decide +kernel
theorem dX11_init_5 : decode cX11_init 5 = .ok (.new 7, 3) := by decide +kernel
theorem dX11_init_8 : decode cX11_init 8 = .ok (.dup, 1) := by decide +kernel
theorem dX11_init_9 : decode cX11_init 9 = .ok (.invokespecial 9, 3) := by decide +kernel
theorem dX11_init_12 : decode cX11_init 12 = .ok (.putfield 10, 3) := by decide +kernel
theorem dX11_init_15 : decode cX11_init 15 = .ok (.aload_n 0, 1) := by decide +kernel
theorem dX11_init_16 : decode cX11_init 16 = .ok (.new 16, 3) := by decide +kernel
theorem dX11_init_19 : decode cX11_init 19 = .ok (.dup, 1) := by decide +kernel
theorem dX11_init_20 : decode cX11_init 20 = .ok (.invokespecial 18, 3) := by decide +kernel
theorem dX11_init_23 : decode cX11_init 23 = .ok (.putfield 19, 3) := by decide +kernel
theorem dX11_init_26 : decode cX11_init 26 = .ok (.aload_n 0, 1) := by decide +kernel
theorem dX11_init_27 : decode cX11_init 27 = .ok (.new 16, 3) := by decide +kernel
theorem dX11_init_30 : decode cX11_init 30 = .ok (.dup, 1) := by decide +kernel
theorem dX11_init_31 : decode cX11_init 31 = .ok (.invokespecial 18, 3) := by decide +kernel
theorem dX11_init_34 : decode cX11_init 34 = .ok (.putfield 23, 3) := by decide +kernel
theorem dX11_init_37 : decode cX11_init 37 = .ok (.aload_n 0, 1) := by decide +kernel
theorem dX11_init_38 : decode cX11_init 38 = .ok (.iconst (-1), 1) := by decide +kernel
theorem dX11_init_39 : decode cX11_init 39 = .ok (.putfield 26, 3) := by decide +kernel
theorem dX11_init_42 : decode cX11_init 42 = .ok (.aload_n 0, 1) := by decide +kernel
theorem dX11_init_43 : decode cX11_init 43 = .ok (.new 30, 3) := by decide +kernel
theorem dX11_init_46 : decode cX11_init 46 = .ok (.dup, 1) := by decide +kernel
theorem dX11_init_47 : decode cX11_init 47 = .ok (.invokespecial 32, 3) := by decide +kernel
theorem dX11_init_50 : decode cX11_init 50 = .ok (.putfield 33, 3) := by decide +kernel
theorem dX11_init_53 : decode cX11_init 53 = .ok (.aload_n 0, 1) := by decide +kernel
theorem dX11_init_54 : decode cX11_init 54 = .ok (.new 37, 3) := by decide +kernel
theorem dX11_init_57 : decode cX11_init 57 = .ok (.dup, 1) := by decide +kernel
theorem dX11_init_58 : decode cX11_init 58 = .ok (.invokespecial 39, 3) := by decide +kernel
theorem dX11_init_61 : decode cX11_init 61 = .ok (.putfield 40, 3) := by decide +kernel
theorem dX11_init_64 : decode cX11_init 64 = .ok (.aload_n 0, 1) := by decide +kernel
theorem dX11_init_65 : decode cX11_init 65 = .ok (.new 44, 3) := by decide +kernel
theorem dX11_init_68 : decode cX11_init 68 = .ok (.dup, 1) := by decide +kernel
theorem dX11_init_69 : decode cX11_init 69 = .ok (.invokespecial 46, 3) := by decide +kernel
theorem dX11_init_72 : decode cX11_init 72 = .ok (.putfield 47, 3) := by decide +kernel
theorem dX11_init_75 : decode cX11_init 75 = .ok (.aload_n 0, 1) := by decide +kernel
theorem dX11_init_76 : decode cX11_init 76 = .ok (.new 44, 3) := by decide +kernel
theorem dX11_init_79 : decode cX11_init 79 = .ok (.dup, 1) := by decide +kernel
theorem dX11_init_80 : decode cX11_init 80 = .ok (.invokespecial 46, 3) := by decide +kernel
theorem dX11_init_83 : decode cX11_init 83 = .ok (.putfield 51, 3) := by decide +kernel
theorem dX11_init_86 : decode cX11_init 86 = .ok (.aload_n 0, 1) := by decide +kernel
theorem dX11_init_87 : decode cX11_init 87 = .ok (.new 54, 3) := by decide +kernel
theorem dX11_init_90 : decode cX11_init 90 = .ok (.dup, 1) := by decide +kernel
theorem dX11_init_91 : decode cX11_init 91 = .ok (.invokespecial 56, 3) := by decide +kernel
theorem dX11_init_94 : decode cX11_init 94 = .ok (.putfield 57, 3) := by decide +kernel
theorem dX11_init_97 : decode cX11_init 97 = .ok (.aload_n 0, 1) := by decide +kernel
theorem dX11_init_98 : decode cX11_init 98 = .ok (.new 61, 3) := by decide +kernel
theorem dX11_init_101 : decode cX11_init 101 = .ok (.dup, 1) := by decide +kernel
theorem dX11_init_102 : decode cX11_init 102 = .ok (.invokespecial 63, 3) := by decide +kernel
theorem dX11_init_105 : decode cX11_init 105 = .ok (.putfield 64, 3) := by decide +kernel
theorem dX11_init_108 : decode cX11_init 108 = .ok (.aload_n 0, 1) := by decide +kernel
theorem dX11_init_109 : decode cX11_init 109 = .ok (.new 68, 3) := by decide +kernel
theorem dX11_init_112 : decode cX11_init 112 = .ok (.dup, 1) := by decide +kernel
theorem dX11_init_113 : decode cX11_init 113 = .ok (.invokespecial 70, 3) := by decide +kernel
theorem dX11_init_116 : decode cX11_init 116 = .ok (.putfield 71, 3) := by decide +kernel
theorem dX11_init_119 : decode cX11_init 119 = .ok (.aload_n 0, 1) := by decide +kernel
theorem dX11_init_120 : decode cX11_init 120 = .ok (.new 75, 3) := by decide +kernel
theorem dX11_init_123 : decode cX11_init 123 = .ok (.dup, 1) := by decide +kernel
theorem dX11_init_124 : decode cX11_init 124 = .ok (.invokespecial 77, 3) := by decide +kernel
theorem dX11_init_127 : decode cX11_init 127 = .ok (.putfield 78, 3) := by decide +kernel
theorem dX11_init_130 : decode cX11_init 130 = .ok (.aload_n 0, 1) := by decide +kernel
theorem dX11_init_131 : decode cX11_init 131 = .ok (.iconst 0, 1) := by decide +kernel
theorem dX11_init_132 : decode cX11_init 132 = .ok (.putfield 82, 3) := by decide +kernel
theorem dX11_init_135 : decode cX11_init 135 = .ok (.return_, 1) := by decide +kernel
theorem dX11_feed_0 : decode cX11_feed 0 = .ok (.iload_n 1, 1) := by decide +kernel
theorem dX11_feed_1 : decode cX11_feed 1 = .ok (.iconst 0, 1) := by decide +kernel
theorem dX11_feed_2 : decode cX11_feed 2 = .ok (.sipush 255, 3) := by decide +kernel
theorem dX11_feed_5 : decode cX11_feed 5 = .ok (.invokestatic 85, 3) := by decide +kernel
theorem dX11_feed_8 : decode cX11_feed 8 = .ok (.ifCond .eq 6, 3) := by decide +kernel
theorem dX11_feed_11 : decode cX11_feed 11 = .ok (.ldc 89, 2) := by decide +kernel
theorem dX11_feed_13 : decode cX11_feed 13 = .ok (.ireturn, 1) := by decide +kernel
theorem dX11_feed_14 : decode cX11_feed 14 = .ok (.aload_n 0, 1) := by decide +kernel
theorem dX11_feed_15 : decode cX11_feed 15 = .ok (.getfield 10, 3) := by decide +kernel
theorem dX11_feed_18 : decode cX11_feed 18 = .ok (.getfield 90, 3) := by decide +kernel
theorem dX11_feed_21 : decode cX11_feed 21 = .ok (.sipush 250, 3) := by decide +kernel
theorem dX11_feed_24 : decode cX11_feed 24 = .ok (.if_icmp .lt 6, 3) := by decide +kernel
theorem dX11_feed_27 : decode cX11_feed 27 = .ok (.ldc 93, 2) := by decide +kernel
theorem dX11_feed_29 : decode cX11_feed 29 = .ok (.ireturn, 1) := by decide +kernel
theorem dX11_feed_30 : decode cX11_feed 30 = .ok (.aload_n 0, 1) := by decide +kernel
theorem dX11_feed_31 : decode cX11_feed 31 = .ok (.getfield 10, 3) := by decide +kernel
theorem dX11_feed_34 : decode cX11_feed 34 = .ok (.iload_n 1, 1) := by decide +kernel
theorem dX11_feed_35 : decode cX11_feed 35 = .ok (.invokevirtual 94, 3) := by decide +kernel
theorem dX11_feed_38 : decode cX11_feed 38 = .ok (.ireturn, 1) := by decide +kernel
theorem dX11_street_0 : decode cX11_street 0 = .ok (.aload_n 0, 1) := by decide +kernel
theorem dX11_street_1 : decode cX11_street 1 = .ok (.getfield 10, 3) := by decide +kernel
theorem dX11_street_4 : decode cX11_street 4 = .ok (.aload_n 0, 1) := by decide +kernel
theorem dX11_street_5 : decode cX11_street 5 = .ok (.getfield 23, 3) := by decide +kernel
theorem dX11_street_8 : decode cX11_street 8 = .ok (.invokevirtual 98, 3) := by decide +kernel
theorem dX11_street_11 : decode cX11_street 11 = .ok (.istore_n 1, 1) := by decide +kernel
theorem dX11_street_12 : decode cX11_street 12 = .ok (.aload_n 0, 1) := by decide +kernel
theorem dX11_street_13 : decode cX11_street 13 = .ok (.aload_n 0, 1) := by decide +kernel
theorem dX11_street_14 : decode cX11_street 14 = .ok (.getfield 10, 3) := by decide +kernel
theorem dX11_street_17 : decode cX11_street 17 = .ok (.getfield 102, 3) := by decide +kernel
theorem dX11_street_20 : decode cX11_street 20 = .ok (.putfield 26, 3) := by decide +kernel
theorem dX11_street_23 : decode cX11_street 23 = .ok (.aload_n 0, 1) := by decide +kernel
theorem dX11_street_24 : decode cX11_street 24 = .ok (.getfield 10, 3) := by decide +kernel
theorem dX11_street_27 : decode cX11_street 27 = .ok (.iconst 0, 1) := by decide +kernel
theorem dX11_street_28 : decode cX11_street 28 = .ok (.putfield 90, 3) := by decide +kernel
theorem dX11_street_31 : decode cX11_street 31 = .ok (.iload_n 1, 1) := by decide +kernel
theorem dX11_street_32 : decode cX11_street 32 = .ok (.ifCond .eq 8, 3) := by decide +kernel
theorem dX11_street_35 : decode cX11_street 35 = .ok (.bipush (-10), 2) := by decide +kernel
theorem dX11_street_37 : decode cX11_street 37 = .ok (.iload_n 1, 1) := by decide +kernel
theorem dX11_street_38 : decode cX11_street 38 = .ok (.isub, 1) := by decide +kernel
theorem dX11_street_39 : decode cX11_street 39 = .ok (.ireturn, 1) := by decide +kernel
theorem dX11_street_40 : decode cX11_street 40 = .ok (.aload_n 0, 1) := by decide +kernel
theorem dX11_street_41 : decode cX11_street 41 = .ok (.getfield 19, 3) := by decide +kernel
theorem dX11_street_44 : decode cX11_street 44 = .ok (.astore_n 2, 1) := by decide +kernel
theorem dX11_street_45 : decode cX11_street 45 = .ok (.aload_n 0, 1) := by decide +kernel
theorem dX11_street_46 : decode cX11_street 46 = .ok (.aload_n 0, 1) := by decide +kernel
theorem dX11_street_47 : decode cX11_street 47 = .ok (.getfield 23, 3) := by decide +kernel
theorem dX11_street_50 : decode cX11_street 50 = .ok (.putfield 19, 3) := by decide +kernel
theorem dX11_street_53 : decode cX11_street 53 = .ok (.aload_n 0, 1) := by decide +kernel
theorem dX11_street_54 : decode cX11_street 54 = .ok (.aload_n 2, 1) := by decide +kernel
theorem dX11_street_55 : decode cX11_street 55 = .ok (.putfield 23, 3) := by decide +kernel
theorem dX11_street_58 : decode cX11_street 58 = .ok (.aload_n 0, 1) := by decide +kernel
theorem dX11_street_59 : decode cX11_street 59 = .ok (.getfield 33, 3) := by decide +kernel
theorem dX11_street_62 : decode cX11_street 62 = .ok (.aload_n 0, 1) := by decide +kernel
theorem dX11_street_63 : decode cX11_street 63 = .ok (.getfield 19, 3) := by decide +kernel
theorem dX11_street_66 : decode cX11_street 66 = .ok (.invokevirtual 103, 3) := by decide +kernel
theorem dX11_street_69 : decode cX11_street 69 = .ok (.invokevirtual 107, 3) := by decide +kernel
theorem dX11_street_72 : decode cX11_street 72 = .ok (.aload_n 0, 1) := by decide +kernel
theorem dX11_street_73 : decode cX11_street 73 = .ok (.getfield 40, 3) := by decide +kernel
theorem dX11_street_76 : decode cX11_street 76 = .ok (.iconst 0, 1) := by decide +kernel
theorem dX11_street_77 : decode cX11_street 77 = .ok (.putfield 111, 3) := by decide +kernel
theorem dX11_street_80 : decode cX11_street 80 = .ok (.aload_n 0, 1) := by decide +kernel
theorem dX11_street_81 : decode cX11_street 81 = .ok (.getfield 47, 3) := by decide +kernel
theorem dX11_street_84 : decode cX11_street 84 = .ok (.iconst 0, 1) := by decide +kernel
theorem dX11_street_85 : decode cX11_street 85 = .ok (.putfield 114, 3) := by decide +kernel
theorem dX11_street_88 : decode cX11_street 88 = .ok (.aload_n 0, 1) := by decide +kernel
theorem dX11_street_89 : decode cX11_street 89 = .ok (.getfield 51, 3) := by decide +kernel
theorem dX11_street_92 : decode cX11_street 92 = .ok (.iconst 0, 1) := by decide +kernel
theorem dX11_street_93 : decode cX11_street 93 = .ok (.putfield 114, 3) := by decide +kernel
theorem dX11_street_96 : decode cX11_street 96 = .ok (.aload_n 0, 1) := by decide +kernel
theorem dX11_street_97 : decode cX11_street 97 = .ok (.invokevirtual 118, 3) := by decide +kernel
theorem dX11_street_100 : decode cX11_street 100 = .ok (.aload_n 0, 1) := by decide +kernel
theorem dX11_street_101 : decode cX11_street 101 = .ok (.getfield 19, 3) := by decide +kernel
theorem dX11_street_104 : decode cX11_street 104 = .ok (.getfield 121, 3) := by decide +kernel
theorem dX11_street_107 : decode cX11_street 107 = .ok (.getfield 125, 3) := by decide +kernel
theorem dX11_street_110 : decode cX11_street 110 = .ok (.ireturn, 1) := by decide +kernel
theorem dX11_fault_0 : decode cX11_fault 0 = .ok (.aload_n 0, 1) := by decide +kernel
theorem dX11_fault_1 : decode cX11_fault 1 = .ok (.getfield 26, 3) := by decide +kernel
theorem dX11_fault_4 : decode cX11_fault 4 = .ok (.ireturn, 1) := by decide +kernel
theorem dX11_told_0 : decode cX11_told 0 = .ok (.iload_n 1, 1) := by decide +kernel
theorem dX11_told_1 : decode cX11_told 1 = .ok (.tableswitch 221 0 14 #[75, 86, 94, 105, 113, 121, 129, 137, 145, 156, 164, 172, 180, 188, 206], 75) := by decide +kernel
theorem dX11_told_76 : decode cX11_told 76 = .ok (.aload_n 0, 1) := by decide +kernel
theorem dX11_told_77 : decode cX11_told 77 = .ok (.getfield 19, 3) := by decide +kernel
theorem dX11_told_80 : decode cX11_told 80 = .ok (.getfield 121, 3) := by decide +kernel
theorem dX11_told_83 : decode cX11_told 83 = .ok (.getfield 125, 3) := by decide +kernel
theorem dX11_told_86 : decode cX11_told 86 = .ok (.ireturn, 1) := by decide +kernel
theorem dX11_told_87 : decode cX11_told 87 = .ok (.aload_n 0, 1) := by decide +kernel
theorem dX11_told_88 : decode cX11_told 88 = .ok (.getfield 19, 3) := by decide +kernel
theorem dX11_told_91 : decode cX11_told 91 = .ok (.getfield 128, 3) := by decide +kernel
theorem dX11_told_94 : decode cX11_told 94 = .ok (.ireturn, 1) := by decide +kernel
theorem dX11_told_95 : decode cX11_told 95 = .ok (.aload_n 0, 1) := by decide +kernel
theorem dX11_told_96 : decode cX11_told 96 = .ok (.getfield 19, 3) := by decide +kernel
theorem dX11_told_99 : decode cX11_told 99 = .ok (.getfield 131, 3) := by decide +kernel
theorem dX11_told_102 : decode cX11_told 102 = .ok (.getfield 135, 3) := by decide +kernel
theorem dX11_told_105 : decode cX11_told 105 = .ok (.ireturn, 1) := by decide +kernel
theorem dX11_told_106 : decode cX11_told 106 = .ok (.aload_n 0, 1) := by decide +kernel
theorem dX11_told_107 : decode cX11_told 107 = .ok (.getfield 10, 3) := by decide +kernel
theorem dX11_told_110 : decode cX11_told 110 = .ok (.getfield 90, 3) := by decide +kernel
theorem dX11_told_113 : decode cX11_told 113 = .ok (.ireturn, 1) := by decide +kernel
theorem dX11_told_114 : decode cX11_told 114 = .ok (.aload_n 0, 1) := by decide +kernel
theorem dX11_told_115 : decode cX11_told 115 = .ok (.getfield 33, 3) := by decide +kernel
theorem dX11_told_118 : decode cX11_told 118 = .ok (.getfield 138, 3) := by decide +kernel
theorem dX11_told_121 : decode cX11_told 121 = .ok (.ireturn, 1) := by decide +kernel
theorem dX11_told_122 : decode cX11_told 122 = .ok (.aload_n 0, 1) := by decide +kernel
theorem dX11_told_123 : decode cX11_told 123 = .ok (.getfield 33, 3) := by decide +kernel
theorem dX11_told_126 : decode cX11_told 126 = .ok (.getfield 141, 3) := by decide +kernel
theorem dX11_told_129 : decode cX11_told 129 = .ok (.ireturn, 1) := by decide +kernel
theorem dX11_told_130 : decode cX11_told 130 = .ok (.aload_n 0, 1) := by decide +kernel
theorem dX11_told_131 : decode cX11_told 131 = .ok (.getfield 33, 3) := by decide +kernel
theorem dX11_told_134 : decode cX11_told 134 = .ok (.getfield 144, 3) := by decide +kernel
theorem dX11_told_137 : decode cX11_told 137 = .ok (.ireturn, 1) := by decide +kernel
theorem dX11_told_138 : decode cX11_told 138 = .ok (.aload_n 0, 1) := by decide +kernel
theorem dX11_told_139 : decode cX11_told 139 = .ok (.getfield 33, 3) := by decide +kernel
theorem dX11_told_142 : decode cX11_told 142 = .ok (.getfield 147, 3) := by decide +kernel
theorem dX11_told_145 : decode cX11_told 145 = .ok (.ireturn, 1) := by decide +kernel
theorem dX11_told_146 : decode cX11_told 146 = .ok (.aload_n 0, 1) := by decide +kernel
theorem dX11_told_147 : decode cX11_told 147 = .ok (.getfield 19, 3) := by decide +kernel
theorem dX11_told_150 : decode cX11_told 150 = .ok (.getfield 121, 3) := by decide +kernel
theorem dX11_told_153 : decode cX11_told 153 = .ok (.getfield 150, 3) := by decide +kernel
theorem dX11_told_156 : decode cX11_told 156 = .ok (.ireturn, 1) := by decide +kernel
theorem dX11_told_157 : decode cX11_told 157 = .ok (.aload_n 0, 1) := by decide +kernel
theorem dX11_told_158 : decode cX11_told 158 = .ok (.getfield 64, 3) := by decide +kernel
theorem dX11_told_161 : decode cX11_told 161 = .ok (.getfield 153, 3) := by decide +kernel
theorem dX11_told_164 : decode cX11_told 164 = .ok (.ireturn, 1) := by decide +kernel
theorem dX11_told_165 : decode cX11_told 165 = .ok (.aload_n 0, 1) := by decide +kernel
theorem dX11_told_166 : decode cX11_told 166 = .ok (.getfield 71, 3) := by decide +kernel
theorem dX11_told_169 : decode cX11_told 169 = .ok (.getfield 156, 3) := by decide +kernel
theorem dX11_told_172 : decode cX11_told 172 = .ok (.ireturn, 1) := by decide +kernel
theorem dX11_told_173 : decode cX11_told 173 = .ok (.aload_n 0, 1) := by decide +kernel
theorem dX11_told_174 : decode cX11_told 174 = .ok (.getfield 78, 3) := by decide +kernel
theorem dX11_told_177 : decode cX11_told 177 = .ok (.getfield 159, 3) := by decide +kernel
theorem dX11_told_180 : decode cX11_told 180 = .ok (.ireturn, 1) := by decide +kernel
theorem dX11_told_181 : decode cX11_told 181 = .ok (.aload_n 0, 1) := by decide +kernel
theorem dX11_told_182 : decode cX11_told 182 = .ok (.getfield 40, 3) := by decide +kernel
theorem dX11_told_185 : decode cX11_told 185 = .ok (.getfield 111, 3) := by decide +kernel
theorem dX11_told_188 : decode cX11_told 188 = .ok (.ireturn, 1) := by decide +kernel
theorem dX11_told_189 : decode cX11_told 189 = .ok (.aload_n 0, 1) := by decide +kernel
theorem dX11_told_190 : decode cX11_told 190 = .ok (.getfield 19, 3) := by decide +kernel
theorem dX11_told_193 : decode cX11_told 193 = .ok (.getfield 131, 3) := by decide +kernel
theorem dX11_told_196 : decode cX11_told 196 = .ok (.aload_n 0, 1) := by decide +kernel
theorem dX11_told_197 : decode cX11_told 197 = .ok (.getfield 33, 3) := by decide +kernel
theorem dX11_told_200 : decode cX11_told 200 = .ok (.getfield 138, 3) := by decide +kernel
theorem dX11_told_203 : decode cX11_told 203 = .ok (.invokevirtual 162, 3) := by decide +kernel
theorem dX11_told_206 : decode cX11_told 206 = .ok (.ireturn, 1) := by decide +kernel
theorem dX11_told_207 : decode cX11_told 207 = .ok (.aload_n 0, 1) := by decide +kernel
theorem dX11_told_208 : decode cX11_told 208 = .ok (.getfield 19, 3) := by decide +kernel
theorem dX11_told_211 : decode cX11_told 211 = .ok (.aload_n 0, 1) := by decide +kernel
theorem dX11_told_212 : decode cX11_told 212 = .ok (.getfield 33, 3) := by decide +kernel
theorem dX11_told_215 : decode cX11_told 215 = .ok (.getfield 141, 3) := by decide +kernel
theorem dX11_told_218 : decode cX11_told 218 = .ok (.invokevirtual 165, 3) := by decide +kernel
theorem dX11_told_221 : decode cX11_told 221 = .ok (.ireturn, 1) := by decide +kernel
theorem dX11_told_222 : decode cX11_told 222 = .ok (.ldc 89, 2) := by decide +kernel
theorem dX11_told_224 : decode cX11_told 224 = .ok (.ireturn, 1) := by decide +kernel
theorem dX11_field_0 : decode cX11_field 0 = .ok (.aload_n 0, 1) := by decide +kernel
theorem dX11_field_1 : decode cX11_field 1 = .ok (.getfield 19, 3) := by decide +kernel
theorem dX11_field_4 : decode cX11_field 4 = .ok (.getfield 121, 3) := by decide +kernel
theorem dX11_field_7 : decode cX11_field 7 = .ok (.astore_n 3, 1) := by decide +kernel
theorem dX11_field_8 : decode cX11_field 8 = .ok (.aload_n 3, 1) := by decide +kernel
theorem dX11_field_9 : decode cX11_field 9 = .ok (.iload_n 1, 1) := by decide +kernel
theorem dX11_field_10 : decode cX11_field 10 = .ok (.invokevirtual 168, 3) := by decide +kernel
theorem dX11_field_13 : decode cX11_field 13 = .ok (.ifCond .ne 6, 3) := by decide +kernel
theorem dX11_field_16 : decode cX11_field 16 = .ok (.ldc 172, 2) := by decide +kernel
theorem dX11_field_18 : decode cX11_field 18 = .ok (.ireturn, 1) := by decide +kernel
theorem dX11_field_19 : decode cX11_field 19 = .ok (.iload_n 2, 1) := by decide +kernel
theorem dX11_field_20 : decode cX11_field 20 = .ok (.tableswitch 94 0 5 #[40, 47, 54, 61, 68, 81], 40) := by decide +kernel
theorem dX11_field_60 : decode cX11_field 60 = .ok (.aload_n 3, 1) := by decide +kernel
theorem dX11_field_61 : decode cX11_field 61 = .ok (.getfield 173, 3) := by decide +kernel
theorem dX11_field_64 : decode cX11_field 64 = .ok (.iload_n 1, 1) := by decide +kernel
theorem dX11_field_65 : decode cX11_field 65 = .ok (.iaload, 1) := by decide +kernel
theorem dX11_field_66 : decode cX11_field 66 = .ok (.ireturn, 1) := by decide +kernel
theorem dX11_field_67 : decode cX11_field 67 = .ok (.aload_n 3, 1) := by decide +kernel
theorem dX11_field_68 : decode cX11_field 68 = .ok (.getfield 177, 3) := by decide +kernel
theorem dX11_field_71 : decode cX11_field 71 = .ok (.iload_n 1, 1) := by decide +kernel
theorem dX11_field_72 : decode cX11_field 72 = .ok (.iaload, 1) := by decide +kernel
theorem dX11_field_73 : decode cX11_field 73 = .ok (.ireturn, 1) := by decide +kernel
theorem dX11_field_74 : decode cX11_field 74 = .ok (.aload_n 3, 1) := by decide +kernel
theorem dX11_field_75 : decode cX11_field 75 = .ok (.getfield 180, 3) := by decide +kernel
theorem dX11_field_78 : decode cX11_field 78 = .ok (.iload_n 1, 1) := by decide +kernel
theorem dX11_field_79 : decode cX11_field 79 = .ok (.iaload, 1) := by decide +kernel
theorem dX11_field_80 : decode cX11_field 80 = .ok (.ireturn, 1) := by decide +kernel
theorem dX11_field_81 : decode cX11_field 81 = .ok (.aload_n 3, 1) := by decide +kernel
theorem dX11_field_82 : decode cX11_field 82 = .ok (.getfield 183, 3) := by decide +kernel
theorem dX11_field_85 : decode cX11_field 85 = .ok (.iload_n 1, 1) := by decide +kernel
theorem dX11_field_86 : decode cX11_field 86 = .ok (.iaload, 1) := by decide +kernel
theorem dX11_field_87 : decode cX11_field 87 = .ok (.ireturn, 1) := by decide +kernel
theorem dX11_field_88 : decode cX11_field 88 = .ok (.aload_n 3, 1) := by decide +kernel
theorem dX11_field_89 : decode cX11_field 89 = .ok (.iload_n 1, 1) := by decide +kernel
theorem dX11_field_90 : decode cX11_field 90 = .ok (.aload_n 0, 1) := by decide +kernel
theorem dX11_field_91 : decode cX11_field 91 = .ok (.getfield 33, 3) := by decide +kernel
theorem dX11_field_94 : decode cX11_field 94 = .ok (.getfield 141, 3) := by decide +kernel
theorem dX11_field_97 : decode cX11_field 97 = .ok (.invokevirtual 186, 3) := by decide +kernel
theorem dX11_field_100 : decode cX11_field 100 = .ok (.ireturn, 1) := by decide +kernel
theorem dX11_field_101 : decode cX11_field 101 = .ok (.aload_n 3, 1) := by decide +kernel
theorem dX11_field_102 : decode cX11_field 102 = .ok (.iload_n 1, 1) := by decide +kernel
theorem dX11_field_103 : decode cX11_field 103 = .ok (.aload_n 0, 1) := by decide +kernel
theorem dX11_field_104 : decode cX11_field 104 = .ok (.getfield 33, 3) := by decide +kernel
theorem dX11_field_107 : decode cX11_field 107 = .ok (.getfield 141, 3) := by decide +kernel
theorem dX11_field_110 : decode cX11_field 110 = .ok (.invokevirtual 190, 3) := by decide +kernel
theorem dX11_field_113 : decode cX11_field 113 = .ok (.ireturn, 1) := by decide +kernel
theorem dX11_field_114 : decode cX11_field 114 = .ok (.ldc 89, 2) := by decide +kernel
theorem dX11_field_116 : decode cX11_field 116 = .ok (.ireturn, 1) := by decide +kernel
theorem dX11_height_0 : decode cX11_height 0 = .ok (.aload_n 0, 1) := by decide +kernel
theorem dX11_height_1 : decode cX11_height 1 = .ok (.getfield 19, 3) := by decide +kernel
theorem dX11_height_4 : decode cX11_height 4 = .ok (.getfield 121, 3) := by decide +kernel
theorem dX11_height_7 : decode cX11_height 7 = .ok (.iload_n 1, 1) := by decide +kernel
theorem dX11_height_8 : decode cX11_height 8 = .ok (.invokevirtual 168, 3) := by decide +kernel
theorem dX11_height_11 : decode cX11_height 11 = .ok (.ifCond .ne 6, 3) := by decide +kernel
theorem dX11_height_14 : decode cX11_height 14 = .ok (.ldc 172, 2) := by decide +kernel
theorem dX11_height_16 : decode cX11_height 16 = .ok (.ireturn, 1) := by decide +kernel
theorem dX11_height_17 : decode cX11_height 17 = .ok (.iload_n 2, 1) := by decide +kernel
theorem dX11_height_18 : decode cX11_height 18 = .ok (.iconst 0, 1) := by decide +kernel
theorem dX11_height_19 : decode cX11_height 19 = .ok (.ldc 193, 2) := by decide +kernel
theorem dX11_height_21 : decode cX11_height 21 = .ok (.invokestatic 85, 3) := by decide +kernel
theorem dX11_height_24 : decode cX11_height 24 = .ok (.ifCond .eq 8, 3) := by decide +kernel
theorem dX11_height_27 : decode cX11_height 27 = .ok (.ldc 89, 2) := by decide +kernel
theorem dX11_height_29 : decode cX11_height 29 = .ok (.goto 15, 3) := by decide +kernel
theorem dX11_height_32 : decode cX11_height 32 = .ok (.aload_n 0, 1) := by decide +kernel
theorem dX11_height_33 : decode cX11_height 33 = .ok (.getfield 19, 3) := by decide +kernel
theorem dX11_height_36 : decode cX11_height 36 = .ok (.getfield 121, 3) := by decide +kernel
theorem dX11_height_39 : decode cX11_height 39 = .ok (.iload_n 1, 1) := by decide +kernel
theorem dX11_height_40 : decode cX11_height 40 = .ok (.iload_n 2, 1) := by decide +kernel
theorem dX11_height_41 : decode cX11_height 41 = .ok (.invokevirtual 186, 3) := by decide +kernel
theorem dX11_height_44 : decode cX11_height 44 = .ok (.ireturn, 1) := by decide +kernel
theorem dX11_house_0 : decode cX11_house 0 = .ok (.aload_n 0, 1) := by decide +kernel
theorem dX11_house_1 : decode cX11_house 1 = .ok (.getfield 19, 3) := by decide +kernel
theorem dX11_house_4 : decode cX11_house 4 = .ok (.iload_n 1, 1) := by decide +kernel
theorem dX11_house_5 : decode cX11_house 5 = .ok (.invokevirtual 194, 3) := by decide +kernel
theorem dX11_house_8 : decode cX11_house 8 = .ok (.ifCond .ne 6, 3) := by decide +kernel
theorem dX11_house_11 : decode cX11_house 11 = .ok (.ldc 172, 2) := by decide +kernel
theorem dX11_house_13 : decode cX11_house 13 = .ok (.ireturn, 1) := by decide +kernel
theorem dX11_house_14 : decode cX11_house 14 = .ok (.iload_n 2, 1) := by decide +kernel
theorem dX11_house_15 : decode cX11_house 15 = .ok (.tableswitch 54 0 2 #[25, 35, 45], 25) := by decide +kernel
theorem dX11_house_40 : decode cX11_house 40 = .ok (.aload_n 0, 1) := by decide +kernel
theorem dX11_house_41 : decode cX11_house 41 = .ok (.getfield 19, 3) := by decide +kernel
theorem dX11_house_44 : decode cX11_house 44 = .ok (.getfield 197, 3) := by decide +kernel
theorem dX11_house_47 : decode cX11_house 47 = .ok (.iload_n 1, 1) := by decide +kernel
theorem dX11_house_48 : decode cX11_house 48 = .ok (.iaload, 1) := by decide +kernel
theorem dX11_house_49 : decode cX11_house 49 = .ok (.ireturn, 1) := by decide +kernel
theorem dX11_house_50 : decode cX11_house 50 = .ok (.aload_n 0, 1) := by decide +kernel
theorem dX11_house_51 : decode cX11_house 51 = .ok (.getfield 19, 3) := by decide +kernel
theorem dX11_house_54 : decode cX11_house 54 = .ok (.getfield 200, 3) := by decide +kernel
theorem dX11_house_57 : decode cX11_house 57 = .ok (.iload_n 1, 1) := by decide +kernel
theorem dX11_house_58 : decode cX11_house 58 = .ok (.iaload, 1) := by decide +kernel
theorem dX11_house_59 : decode cX11_house 59 = .ok (.ireturn, 1) := by decide +kernel
theorem dX11_house_60 : decode cX11_house 60 = .ok (.aload_n 0, 1) := by decide +kernel
theorem dX11_house_61 : decode cX11_house 61 = .ok (.getfield 19, 3) := by decide +kernel
theorem dX11_house_64 : decode cX11_house 64 = .ok (.iload_n 1, 1) := by decide +kernel
theorem dX11_house_65 : decode cX11_house 65 = .ok (.invokevirtual 203, 3) := by decide +kernel
theorem dX11_house_68 : decode cX11_house 68 = .ok (.ireturn, 1) := by decide +kernel
theorem dX11_house_69 : decode cX11_house 69 = .ok (.ldc 89, 2) := by decide +kernel
theorem dX11_house_71 : decode cX11_house 71 = .ok (.ireturn, 1) := by decide +kernel
theorem dX11_seam_0 : decode cX11_seam 0 = .ok (.aload_n 0, 1) := by decide +kernel
theorem dX11_seam_1 : decode cX11_seam 1 = .ok (.getfield 19, 3) := by decide +kernel
theorem dX11_seam_4 : decode cX11_seam 4 = .ok (.getfield 131, 3) := by decide +kernel
theorem dX11_seam_7 : decode cX11_seam 7 = .ok (.astore_n 3, 1) := by decide +kernel
theorem dX11_seam_8 : decode cX11_seam 8 = .ok (.aload_n 3, 1) := by decide +kernel
theorem dX11_seam_9 : decode cX11_seam 9 = .ok (.iload_n 1, 1) := by decide +kernel
theorem dX11_seam_10 : decode cX11_seam 10 = .ok (.invokevirtual 206, 3) := by decide +kernel
theorem dX11_seam_13 : decode cX11_seam 13 = .ok (.ifCond .ne 6, 3) := by decide +kernel
theorem dX11_seam_16 : decode cX11_seam 16 = .ok (.ldc 172, 2) := by decide +kernel
theorem dX11_seam_18 : decode cX11_seam 18 = .ok (.ireturn, 1) := by decide +kernel
theorem dX11_seam_19 : decode cX11_seam 19 = .ok (.iload_n 2, 1) := by decide +kernel
theorem dX11_seam_20 : decode cX11_seam 20 = .ok (.tableswitch 60 0 3 #[32, 39, 46, 53], 32) := by decide +kernel
theorem dX11_seam_52 : decode cX11_seam 52 = .ok (.aload_n 3, 1) := by decide +kernel
theorem dX11_seam_53 : decode cX11_seam 53 = .ok (.getfield 207, 3) := by decide +kernel
theorem dX11_seam_56 : decode cX11_seam 56 = .ok (.iload_n 1, 1) := by decide +kernel
theorem dX11_seam_57 : decode cX11_seam 57 = .ok (.iaload, 1) := by decide +kernel
theorem dX11_seam_58 : decode cX11_seam 58 = .ok (.ireturn, 1) := by decide +kernel
theorem dX11_seam_59 : decode cX11_seam 59 = .ok (.aload_n 3, 1) := by decide +kernel
theorem dX11_seam_60 : decode cX11_seam 60 = .ok (.getfield 210, 3) := by decide +kernel
theorem dX11_seam_63 : decode cX11_seam 63 = .ok (.iload_n 1, 1) := by decide +kernel
theorem dX11_seam_64 : decode cX11_seam 64 = .ok (.iaload, 1) := by decide +kernel
theorem dX11_seam_65 : decode cX11_seam 65 = .ok (.ireturn, 1) := by decide +kernel
theorem dX11_seam_66 : decode cX11_seam 66 = .ok (.aload_n 3, 1) := by decide +kernel
theorem dX11_seam_67 : decode cX11_seam 67 = .ok (.getfield 211, 3) := by decide +kernel
theorem dX11_seam_70 : decode cX11_seam 70 = .ok (.iload_n 1, 1) := by decide +kernel
theorem dX11_seam_71 : decode cX11_seam 71 = .ok (.iaload, 1) := by decide +kernel
theorem dX11_seam_72 : decode cX11_seam 72 = .ok (.ireturn, 1) := by decide +kernel
theorem dX11_seam_73 : decode cX11_seam 73 = .ok (.aload_n 3, 1) := by decide +kernel
theorem dX11_seam_74 : decode cX11_seam 74 = .ok (.getfield 214, 3) := by decide +kernel
theorem dX11_seam_77 : decode cX11_seam 77 = .ok (.iload_n 1, 1) := by decide +kernel
theorem dX11_seam_78 : decode cX11_seam 78 = .ok (.iaload, 1) := by decide +kernel
theorem dX11_seam_79 : decode cX11_seam 79 = .ok (.ireturn, 1) := by decide +kernel
theorem dX11_seam_80 : decode cX11_seam 80 = .ok (.ldc 89, 2) := by decide +kernel
theorem dX11_seam_82 : decode cX11_seam 82 = .ok (.ireturn, 1) := by decide +kernel
theorem dX11_step_0 : decode cX11_step 0 = .ok (.aload_n 0, 1) := by decide +kernel
theorem dX11_step_1 : decode cX11_step 1 = .ok (.iload_n 1, 1) := by decide +kernel
theorem dX11_step_2 : decode cX11_step 2 = .ok (.iconst 0, 1) := by decide +kernel
theorem dX11_step_3 : decode cX11_step 3 = .ok (.invokevirtual 217, 3) := by decide +kernel
theorem dX11_step_6 : decode cX11_step 6 = .ok (.ireturn, 1) := by decide +kernel
theorem dX11_hold_0 : decode cX11_hold 0 = .ok (.aload_n 0, 1) := by decide +kernel
theorem dX11_hold_1 : decode cX11_hold 1 = .ok (.iload_n 1, 1) := by decide +kernel
theorem dX11_hold_2 : decode cX11_hold 2 = .ok (.iconst 1, 1) := by decide +kernel
theorem dX11_hold_3 : decode cX11_hold 3 = .ok (.invokevirtual 217, 3) := by decide +kernel
theorem dX11_hold_6 : decode cX11_hold 6 = .ok (.ireturn, 1) := by decide +kernel
theorem dX11_roll_0 : decode cX11_roll 0 = .ok (.iload_n 1, 1) := by decide +kernel
theorem dX11_roll_1 : decode cX11_roll 1 = .ok (.iconst 0, 1) := by decide +kernel
theorem dX11_roll_2 : decode cX11_roll 2 = .ok (.iconst 2, 1) := by decide +kernel
theorem dX11_roll_3 : decode cX11_roll 3 = .ok (.invokestatic 85, 3) := by decide +kernel
theorem dX11_roll_6 : decode cX11_roll 6 = .ok (.ifCond .eq 6, 3) := by decide +kernel
theorem dX11_roll_9 : decode cX11_roll 9 = .ok (.ldc 89, 2) := by decide +kernel
theorem dX11_roll_11 : decode cX11_roll 11 = .ok (.ireturn, 1) := by decide +kernel
theorem dX11_roll_12 : decode cX11_roll 12 = .ok (.aload_n 0, 1) := by decide +kernel
theorem dX11_roll_13 : decode cX11_roll 13 = .ok (.getfield 33, 3) := by decide +kernel
theorem dX11_roll_16 : decode cX11_roll 16 = .ok (.aload_n 0, 1) := by decide +kernel
theorem dX11_roll_17 : decode cX11_roll 17 = .ok (.getfield 19, 3) := by decide +kernel
theorem dX11_roll_20 : decode cX11_roll 20 = .ok (.iload_n 1, 1) := by decide +kernel
theorem dX11_roll_21 : decode cX11_roll 21 = .ok (.invokevirtual 221, 3) := by decide +kernel
theorem dX11_roll_24 : decode cX11_roll 24 = .ok (.ifCond .ne 6, 3) := by decide +kernel
theorem dX11_roll_27 : decode cX11_roll 27 = .ok (.ldc 225, 2) := by decide +kernel
theorem dX11_roll_29 : decode cX11_roll 29 = .ok (.ireturn, 1) := by decide +kernel
theorem dX11_roll_30 : decode cX11_roll 30 = .ok (.aload_n 0, 1) := by decide +kernel
theorem dX11_roll_31 : decode cX11_roll 31 = .ok (.getfield 33, 3) := by decide +kernel
theorem dX11_roll_34 : decode cX11_roll 34 = .ok (.getfield 138, 3) := by decide +kernel
theorem dX11_roll_37 : decode cX11_roll 37 = .ok (.iconst 1, 1) := by decide +kernel
theorem dX11_roll_38 : decode cX11_roll 38 = .ok (.iadd, 1) := by decide +kernel
theorem dX11_roll_39 : decode cX11_roll 39 = .ok (.ldc 226, 2) := by decide +kernel
theorem dX11_roll_41 : decode cX11_roll 41 = .ok (.if_icmp .le 6, 3) := by decide +kernel
theorem dX11_roll_44 : decode cX11_roll 44 = .ok (.ldc 93, 2) := by decide +kernel
theorem dX11_roll_46 : decode cX11_roll 46 = .ok (.ireturn, 1) := by decide +kernel
theorem dX11_roll_47 : decode cX11_roll 47 = .ok (.aload_n 0, 1) := by decide +kernel
theorem dX11_roll_48 : decode cX11_roll 48 = .ok (.getfield 40, 3) := by decide +kernel
theorem dX11_roll_51 : decode cX11_roll 51 = .ok (.aload_n 0, 1) := by decide +kernel
theorem dX11_roll_52 : decode cX11_roll 52 = .ok (.getfield 33, 3) := by decide +kernel
theorem dX11_roll_55 : decode cX11_roll 55 = .ok (.invokevirtual 227, 3) := by decide +kernel
theorem dX11_roll_58 : decode cX11_roll 58 = .ok (.aload_n 0, 1) := by decide +kernel
theorem dX11_roll_59 : decode cX11_roll 59 = .ok (.getfield 33, 3) := by decide +kernel
theorem dX11_roll_62 : decode cX11_roll 62 = .ok (.aload_n 0, 1) := by decide +kernel
theorem dX11_roll_63 : decode cX11_roll 63 = .ok (.getfield 19, 3) := by decide +kernel
theorem dX11_roll_66 : decode cX11_roll 66 = .ok (.iload_n 1, 1) := by decide +kernel
theorem dX11_roll_67 : decode cX11_roll 67 = .ok (.iconst 0, 1) := by decide +kernel
theorem dX11_roll_68 : decode cX11_roll 68 = .ok (.invokevirtual 231, 3) := by decide +kernel
theorem dX11_roll_71 : decode cX11_roll 71 = .ok (.ireturn, 1) := by decide +kernel
theorem dX11_slack_0 : decode cX11_slack 0 = .ok (.aload_n 0, 1) := by decide +kernel
theorem dX11_slack_1 : decode cX11_slack 1 = .ok (.getfield 19, 3) := by decide +kernel
theorem dX11_slack_4 : decode cX11_slack 4 = .ok (.iload_n 1, 1) := by decide +kernel
theorem dX11_slack_5 : decode cX11_slack 5 = .ok (.invokevirtual 194, 3) := by decide +kernel
theorem dX11_slack_8 : decode cX11_slack 8 = .ok (.ifCond .ne 6, 3) := by decide +kernel
theorem dX11_slack_11 : decode cX11_slack 11 = .ok (.ldc 172, 2) := by decide +kernel
theorem dX11_slack_13 : decode cX11_slack 13 = .ok (.ireturn, 1) := by decide +kernel
theorem dX11_slack_14 : decode cX11_slack 14 = .ok (.iload_n 2, 1) := by decide +kernel
theorem dX11_slack_15 : decode cX11_slack 15 = .ok (.iconst 0, 1) := by decide +kernel
theorem dX11_slack_16 : decode cX11_slack 16 = .ok (.sipush 999, 3) := by decide +kernel
theorem dX11_slack_19 : decode cX11_slack 19 = .ok (.invokestatic 85, 3) := by decide +kernel
theorem dX11_slack_22 : decode cX11_slack 22 = .ok (.ifCond .eq 6, 3) := by decide +kernel
theorem dX11_slack_25 : decode cX11_slack 25 = .ok (.ldc 89, 2) := by decide +kernel
theorem dX11_slack_27 : decode cX11_slack 27 = .ok (.ireturn, 1) := by decide +kernel
theorem dX11_slack_28 : decode cX11_slack 28 = .ok (.aload_n 0, 1) := by decide +kernel
theorem dX11_slack_29 : decode cX11_slack 29 = .ok (.getfield 19, 3) := by decide +kernel
theorem dX11_slack_32 : decode cX11_slack 32 = .ok (.getfield 200, 3) := by decide +kernel
theorem dX11_slack_35 : decode cX11_slack 35 = .ok (.iload_n 1, 1) := by decide +kernel
theorem dX11_slack_36 : decode cX11_slack 36 = .ok (.iaload, 1) := by decide +kernel
theorem dX11_slack_37 : decode cX11_slack 37 = .ok (.istore_n 3, 1) := by decide +kernel
theorem dX11_slack_38 : decode cX11_slack 38 = .ok (.aload_n 0, 1) := by decide +kernel
theorem dX11_slack_39 : decode cX11_slack 39 = .ok (.getfield 19, 3) := by decide +kernel
theorem dX11_slack_42 : decode cX11_slack 42 = .ok (.getfield 200, 3) := by decide +kernel
theorem dX11_slack_45 : decode cX11_slack 45 = .ok (.iload_n 1, 1) := by decide +kernel
theorem dX11_slack_46 : decode cX11_slack 46 = .ok (.iload_n 2, 1) := by decide +kernel
theorem dX11_slack_47 : decode cX11_slack 47 = .ok (.iastore, 1) := by decide +kernel
theorem dX11_slack_48 : decode cX11_slack 48 = .ok (.iload_n 3, 1) := by decide +kernel
theorem dX11_slack_49 : decode cX11_slack 49 = .ok (.ireturn, 1) := by decide +kernel
theorem dX11_drift_0 : decode cX11_drift 0 = .ok (.iload_n 1, 1) := by decide +kernel
theorem dX11_drift_1 : decode cX11_drift 1 = .ok (.iconst 1, 1) := by decide +kernel
theorem dX11_drift_2 : decode cX11_drift 2 = .ok (.bipush 99, 2) := by decide +kernel
theorem dX11_drift_4 : decode cX11_drift 4 = .ok (.invokestatic 85, 3) := by decide +kernel
theorem dX11_drift_7 : decode cX11_drift 7 = .ok (.ifCond .eq 6, 3) := by decide +kernel
theorem dX11_drift_10 : decode cX11_drift 10 = .ok (.ldc 89, 2) := by decide +kernel
theorem dX11_drift_12 : decode cX11_drift 12 = .ok (.ireturn, 1) := by decide +kernel
theorem dX11_drift_13 : decode cX11_drift 13 = .ok (.aload_n 0, 1) := by decide +kernel
theorem dX11_drift_14 : decode cX11_drift 14 = .ok (.getfield 19, 3) := by decide +kernel
theorem dX11_drift_17 : decode cX11_drift 17 = .ok (.getfield 121, 3) := by decide +kernel
theorem dX11_drift_20 : decode cX11_drift 20 = .ok (.getfield 125, 3) := by decide +kernel
theorem dX11_drift_23 : decode cX11_drift 23 = .ok (.ifCond .ne 6, 3) := by decide +kernel
theorem dX11_drift_26 : decode cX11_drift 26 = .ok (.ldc 225, 2) := by decide +kernel
theorem dX11_drift_28 : decode cX11_drift 28 = .ok (.ireturn, 1) := by decide +kernel
theorem dX11_drift_29 : decode cX11_drift 29 = .ok (.aload_n 0, 1) := by decide +kernel
theorem dX11_drift_30 : decode cX11_drift 30 = .ok (.getfield 33, 3) := by decide +kernel
theorem dX11_drift_33 : decode cX11_drift 33 = .ok (.getfield 138, 3) := by decide +kernel
theorem dX11_drift_36 : decode cX11_drift 36 = .ok (.iload_n 1, 1) := by decide +kernel
theorem dX11_drift_37 : decode cX11_drift 37 = .ok (.iadd, 1) := by decide +kernel
theorem dX11_drift_38 : decode cX11_drift 38 = .ok (.ldc 226, 2) := by decide +kernel
theorem dX11_drift_40 : decode cX11_drift 40 = .ok (.if_icmp .le 6, 3) := by decide +kernel
theorem dX11_drift_43 : decode cX11_drift 43 = .ok (.ldc 93, 2) := by decide +kernel
theorem dX11_drift_45 : decode cX11_drift 45 = .ok (.ireturn, 1) := by decide +kernel
theorem dX11_drift_46 : decode cX11_drift 46 = .ok (.iconst 0, 1) := by decide +kernel
theorem dX11_drift_47 : decode cX11_drift 47 = .ok (.istore_n 2, 1) := by decide +kernel
theorem dX11_drift_48 : decode cX11_drift 48 = .ok (.iload_n 2, 1) := by decide +kernel
theorem dX11_drift_49 : decode cX11_drift 49 = .ok (.iload_n 1, 1) := by decide +kernel
theorem dX11_drift_50 : decode cX11_drift 50 = .ok (.if_icmp .ge 77, 3) := by decide +kernel
theorem dX11_drift_53 : decode cX11_drift 53 = .ok (.aload_n 0, 1) := by decide +kernel
theorem dX11_drift_54 : decode cX11_drift 54 = .ok (.bipush 8, 2) := by decide +kernel
theorem dX11_drift_56 : decode cX11_drift 56 = .ok (.invokevirtual 235, 3) := by decide +kernel
theorem dX11_drift_59 : decode cX11_drift 59 = .ok (.ifCond .ne 7, 3) := by decide +kernel
theorem dX11_drift_62 : decode cX11_drift 62 = .ok (.iconst 1, 1) := by decide +kernel
theorem dX11_drift_63 : decode cX11_drift 63 = .ok (.goto 4, 3) := by decide +kernel
theorem dX11_drift_66 : decode cX11_drift 66 = .ok (.iconst 0, 1) := by decide +kernel
theorem dX11_drift_67 : decode cX11_drift 67 = .ok (.istore_n 3, 1) := by decide +kernel
theorem dX11_drift_68 : decode cX11_drift 68 = .ok (.aload_n 0, 1) := by decide +kernel
theorem dX11_drift_69 : decode cX11_drift 69 = .ok (.iconst 3, 1) := by decide +kernel
theorem dX11_drift_70 : decode cX11_drift 70 = .ok (.invokevirtual 235, 3) := by decide +kernel
theorem dX11_drift_73 : decode cX11_drift 73 = .ok (.istore 4, 2) := by decide +kernel
theorem dX11_drift_75 : decode cX11_drift 75 = .ok (.aload_n 0, 1) := by decide +kernel
theorem dX11_drift_76 : decode cX11_drift 76 = .ok (.getfield 40, 3) := by decide +kernel
theorem dX11_drift_79 : decode cX11_drift 79 = .ok (.aload_n 0, 1) := by decide +kernel
theorem dX11_drift_80 : decode cX11_drift 80 = .ok (.getfield 33, 3) := by decide +kernel
theorem dX11_drift_83 : decode cX11_drift 83 = .ok (.invokevirtual 227, 3) := by decide +kernel
theorem dX11_drift_86 : decode cX11_drift 86 = .ok (.aload_n 0, 1) := by decide +kernel
theorem dX11_drift_87 : decode cX11_drift 87 = .ok (.getfield 33, 3) := by decide +kernel
theorem dX11_drift_90 : decode cX11_drift 90 = .ok (.aload_n 0, 1) := by decide +kernel
theorem dX11_drift_91 : decode cX11_drift 91 = .ok (.getfield 19, 3) := by decide +kernel
theorem dX11_drift_94 : decode cX11_drift 94 = .ok (.aload_n 0, 1) := by decide +kernel
theorem dX11_drift_95 : decode cX11_drift 95 = .ok (.getfield 33, 3) := by decide +kernel
theorem dX11_drift_98 : decode cX11_drift 98 = .ok (.aload_n 0, 1) := by decide +kernel
theorem dX11_drift_99 : decode cX11_drift 99 = .ok (.getfield 19, 3) := by decide +kernel
theorem dX11_drift_102 : decode cX11_drift 102 = .ok (.iload 4, 2) := by decide +kernel
theorem dX11_drift_104 : decode cX11_drift 104 = .ok (.invokevirtual 221, 3) := by decide +kernel
theorem dX11_drift_107 : decode cX11_drift 107 = .ok (.ifCond .eq 8, 3) := by decide +kernel
theorem dX11_drift_110 : decode cX11_drift 110 = .ok (.iload 4, 2) := by decide +kernel
theorem dX11_drift_112 : decode cX11_drift 112 = .ok (.goto 4, 3) := by decide +kernel
theorem dX11_drift_115 : decode cX11_drift 115 = .ok (.iconst 0, 1) := by decide +kernel
theorem dX11_drift_116 : decode cX11_drift 116 = .ok (.iload_n 3, 1) := by decide +kernel
theorem dX11_drift_117 : decode cX11_drift 117 = .ok (.invokevirtual 231, 3) := by decide +kernel
theorem dX11_drift_120 : decode cX11_drift 120 = .ok (.pop, 1) := by decide +kernel
theorem dX11_drift_121 : decode cX11_drift 121 = .ok (.iinc 2 1, 3) := by decide +kernel
theorem dX11_drift_124 : decode cX11_drift 124 = .ok (.goto (-76), 3) := by decide +kernel
theorem dX11_drift_127 : decode cX11_drift 127 = .ok (.aload_n 0, 1) := by decide +kernel
theorem dX11_drift_128 : decode cX11_drift 128 = .ok (.getfield 33, 3) := by decide +kernel
theorem dX11_drift_131 : decode cX11_drift 131 = .ok (.getfield 144, 3) := by decide +kernel
theorem dX11_drift_134 : decode cX11_drift 134 = .ok (.ireturn, 1) := by decide +kernel
theorem dX11_undo_0 : decode cX11_undo 0 = .ok (.iload_n 1, 1) := by decide +kernel
theorem dX11_undo_1 : decode cX11_undo 1 = .ok (.iconst 1, 1) := by decide +kernel
theorem dX11_undo_2 : decode cX11_undo 2 = .ok (.bipush 40, 2) := by decide +kernel
theorem dX11_undo_4 : decode cX11_undo 4 = .ok (.invokestatic 85, 3) := by decide +kernel
theorem dX11_undo_7 : decode cX11_undo 7 = .ok (.ifCond .eq 6, 3) := by decide +kernel
theorem dX11_undo_10 : decode cX11_undo 10 = .ok (.ldc 89, 2) := by decide +kernel
theorem dX11_undo_12 : decode cX11_undo 12 = .ok (.ireturn, 1) := by decide +kernel
theorem dX11_undo_13 : decode cX11_undo 13 = .ok (.iload_n 1, 1) := by decide +kernel
theorem dX11_undo_14 : decode cX11_undo 14 = .ok (.aload_n 0, 1) := by decide +kernel
theorem dX11_undo_15 : decode cX11_undo 15 = .ok (.getfield 40, 3) := by decide +kernel
theorem dX11_undo_18 : decode cX11_undo 18 = .ok (.getfield 111, 3) := by decide +kernel
theorem dX11_undo_21 : decode cX11_undo 21 = .ok (.if_icmp .le 6, 3) := by decide +kernel
theorem dX11_undo_24 : decode cX11_undo 24 = .ok (.ldc 225, 2) := by decide +kernel
theorem dX11_undo_26 : decode cX11_undo 26 = .ok (.ireturn, 1) := by decide +kernel
theorem dX11_undo_27 : decode cX11_undo 27 = .ok (.aload_n 0, 1) := by decide +kernel
theorem dX11_undo_28 : decode cX11_undo 28 = .ok (.getfield 40, 3) := by decide +kernel
theorem dX11_undo_31 : decode cX11_undo 31 = .ok (.aload_n 0, 1) := by decide +kernel
theorem dX11_undo_32 : decode cX11_undo 32 = .ok (.getfield 33, 3) := by decide +kernel
theorem dX11_undo_35 : decode cX11_undo 35 = .ok (.iload_n 1, 1) := by decide +kernel
theorem dX11_undo_36 : decode cX11_undo 36 = .ok (.invokevirtual 238, 3) := by decide +kernel
theorem dX11_undo_39 : decode cX11_undo 39 = .ok (.aload_n 0, 1) := by decide +kernel
theorem dX11_undo_40 : decode cX11_undo 40 = .ok (.getfield 33, 3) := by decide +kernel
theorem dX11_undo_43 : decode cX11_undo 43 = .ok (.getfield 138, 3) := by decide +kernel
theorem dX11_undo_46 : decode cX11_undo 46 = .ok (.ireturn, 1) := by decide +kernel
theorem dX11_cracks_0 : decode cX11_cracks 0 = .ok (.aload_n 0, 1) := by decide +kernel
theorem dX11_cracks_1 : decode cX11_cracks 1 = .ok (.getfield 19, 3) := by decide +kernel
theorem dX11_cracks_4 : decode cX11_cracks 4 = .ok (.iload_n 1, 1) := by decide +kernel
theorem dX11_cracks_5 : decode cX11_cracks 5 = .ok (.invokevirtual 194, 3) := by decide +kernel
theorem dX11_cracks_8 : decode cX11_cracks 8 = .ok (.ifCond .eq 21, 3) := by decide +kernel
theorem dX11_cracks_11 : decode cX11_cracks 11 = .ok (.aload_n 0, 1) := by decide +kernel
theorem dX11_cracks_12 : decode cX11_cracks 12 = .ok (.getfield 19, 3) := by decide +kernel
theorem dX11_cracks_15 : decode cX11_cracks 15 = .ok (.iload_n 1, 1) := by decide +kernel
theorem dX11_cracks_16 : decode cX11_cracks 16 = .ok (.aload_n 0, 1) := by decide +kernel
theorem dX11_cracks_17 : decode cX11_cracks 17 = .ok (.getfield 33, 3) := by decide +kernel
theorem dX11_cracks_20 : decode cX11_cracks 20 = .ok (.getfield 141, 3) := by decide +kernel
theorem dX11_cracks_23 : decode cX11_cracks 23 = .ok (.invokevirtual 242, 3) := by decide +kernel
theorem dX11_cracks_26 : decode cX11_cracks 26 = .ok (.goto 5, 3) := by decide +kernel
theorem dX11_cracks_29 : decode cX11_cracks 29 = .ok (.ldc 172, 2) := by decide +kernel
theorem dX11_cracks_31 : decode cX11_cracks 31 = .ok (.ireturn, 1) := by decide +kernel
theorem dX11_worst_0 : decode cX11_worst 0 = .ok (.aload_n 0, 1) := by decide +kernel
theorem dX11_worst_1 : decode cX11_worst 1 = .ok (.getfield 19, 3) := by decide +kernel
theorem dX11_worst_4 : decode cX11_worst 4 = .ok (.invokevirtual 245, 3) := by decide +kernel
theorem dX11_worst_7 : decode cX11_worst 7 = .ok (.ireturn, 1) := by decide +kernel
theorem dX11_water_0 : decode cX11_water 0 = .ok (.aload_n 0, 1) := by decide +kernel
theorem dX11_water_1 : decode cX11_water 1 = .ok (.getfield 19, 3) := by decide +kernel
theorem dX11_water_4 : decode cX11_water 4 = .ok (.getfield 121, 3) := by decide +kernel
theorem dX11_water_7 : decode cX11_water 7 = .ok (.iload_n 1, 1) := by decide +kernel
theorem dX11_water_8 : decode cX11_water 8 = .ok (.invokevirtual 168, 3) := by decide +kernel
theorem dX11_water_11 : decode cX11_water 11 = .ok (.ifCond .ne 6, 3) := by decide +kernel
theorem dX11_water_14 : decode cX11_water 14 = .ok (.ldc 172, 2) := by decide +kernel
theorem dX11_water_16 : decode cX11_water 16 = .ok (.ireturn, 1) := by decide +kernel
theorem dX11_water_17 : decode cX11_water 17 = .ok (.iload_n 2, 1) := by decide +kernel
theorem dX11_water_18 : decode cX11_water 18 = .ok (.iconst 0, 1) := by decide +kernel
theorem dX11_water_19 : decode cX11_water 19 = .ok (.bipush 99, 2) := by decide +kernel
theorem dX11_water_21 : decode cX11_water 21 = .ok (.invokestatic 85, 3) := by decide +kernel
theorem dX11_water_24 : decode cX11_water 24 = .ok (.ifCond .eq 8, 3) := by decide +kernel
theorem dX11_water_27 : decode cX11_water 27 = .ok (.ldc 89, 2) := by decide +kernel
theorem dX11_water_29 : decode cX11_water 29 = .ok (.goto 22, 3) := by decide +kernel
theorem dX11_water_32 : decode cX11_water 32 = .ok (.aload_n 0, 1) := by decide +kernel
theorem dX11_water_33 : decode cX11_water 33 = .ok (.getfield 19, 3) := by decide +kernel
theorem dX11_water_36 : decode cX11_water 36 = .ok (.getfield 121, 3) := by decide +kernel
theorem dX11_water_39 : decode cX11_water 39 = .ok (.iload_n 1, 1) := by decide +kernel
theorem dX11_water_40 : decode cX11_water 40 = .ok (.aload_n 0, 1) := by decide +kernel
theorem dX11_water_41 : decode cX11_water 41 = .ok (.getfield 33, 3) := by decide +kernel
theorem dX11_water_44 : decode cX11_water 44 = .ok (.getfield 141, 3) := by decide +kernel
theorem dX11_water_47 : decode cX11_water 47 = .ok (.iload_n 2, 1) := by decide +kernel
theorem dX11_water_48 : decode cX11_water 48 = .ok (.invokevirtual 248, 3) := by decide +kernel
theorem dX11_water_51 : decode cX11_water 51 = .ok (.ireturn, 1) := by decide +kernel
theorem dX11_mill_0 : decode cX11_mill 0 = .ok (.aload_n 0, 1) := by decide +kernel
theorem dX11_mill_1 : decode cX11_mill 1 = .ok (.getfield 19, 3) := by decide +kernel
theorem dX11_mill_4 : decode cX11_mill 4 = .ok (.getfield 121, 3) := by decide +kernel
theorem dX11_mill_7 : decode cX11_mill 7 = .ok (.iload_n 1, 1) := by decide +kernel
theorem dX11_mill_8 : decode cX11_mill 8 = .ok (.invokevirtual 252, 3) := by decide +kernel
theorem dX11_mill_11 : decode cX11_mill 11 = .ok (.ifCond .ne 6, 3) := by decide +kernel
theorem dX11_mill_14 : decode cX11_mill 14 = .ok (.ldc 172, 2) := by decide +kernel
theorem dX11_mill_16 : decode cX11_mill 16 = .ok (.ireturn, 1) := by decide +kernel
theorem dX11_mill_17 : decode cX11_mill 17 = .ok (.iload_n 2, 1) := by decide +kernel
theorem dX11_mill_18 : decode cX11_mill 18 = .ok (.iconst 0, 1) := by decide +kernel
theorem dX11_mill_19 : decode cX11_mill 19 = .ok (.iconst 2, 1) := by decide +kernel
theorem dX11_mill_20 : decode cX11_mill 20 = .ok (.invokestatic 85, 3) := by decide +kernel
theorem dX11_mill_23 : decode cX11_mill 23 = .ok (.ifCond .eq 8, 3) := by decide +kernel
theorem dX11_mill_26 : decode cX11_mill 26 = .ok (.ldc 89, 2) := by decide +kernel
theorem dX11_mill_28 : decode cX11_mill 28 = .ok (.goto 15, 3) := by decide +kernel
theorem dX11_mill_31 : decode cX11_mill 31 = .ok (.aload_n 0, 1) := by decide +kernel
theorem dX11_mill_32 : decode cX11_mill 32 = .ok (.getfield 19, 3) := by decide +kernel
theorem dX11_mill_35 : decode cX11_mill 35 = .ok (.getfield 121, 3) := by decide +kernel
theorem dX11_mill_38 : decode cX11_mill 38 = .ok (.iload_n 1, 1) := by decide +kernel
theorem dX11_mill_39 : decode cX11_mill 39 = .ok (.iload_n 2, 1) := by decide +kernel
theorem dX11_mill_40 : decode cX11_mill 40 = .ok (.invokevirtual 255, 3) := by decide +kernel
theorem dX11_mill_43 : decode cX11_mill 43 = .ok (.ireturn, 1) := by decide +kernel
theorem dX11_bestMill_0 : decode cX11_bestMill 0 = .ok (.aload_n 0, 1) := by decide +kernel
theorem dX11_bestMill_1 : decode cX11_bestMill 1 = .ok (.getfield 19, 3) := by decide +kernel
theorem dX11_bestMill_4 : decode cX11_bestMill 4 = .ok (.getfield 121, 3) := by decide +kernel
theorem dX11_bestMill_7 : decode cX11_bestMill 7 = .ok (.invokevirtual 258, 3) := by decide +kernel
theorem dX11_bestMill_10 : decode cX11_bestMill 10 = .ok (.ireturn, 1) := by decide +kernel
theorem dX11_soonest_0 : decode cX11_soonest 0 = .ok (.aload_n 0, 1) := by decide +kernel
theorem dX11_soonest_1 : decode cX11_soonest 1 = .ok (.getfield 19, 3) := by decide +kernel
theorem dX11_soonest_4 : decode cX11_soonest 4 = .ok (.getfield 121, 3) := by decide +kernel
theorem dX11_soonest_7 : decode cX11_soonest 7 = .ok (.iload_n 1, 1) := by decide +kernel
theorem dX11_soonest_8 : decode cX11_soonest 8 = .ok (.invokevirtual 168, 3) := by decide +kernel
theorem dX11_soonest_11 : decode cX11_soonest 11 = .ok (.ifCond .eq 17, 3) := by decide +kernel
theorem dX11_soonest_14 : decode cX11_soonest 14 = .ok (.aload_n 0, 1) := by decide +kernel
theorem dX11_soonest_15 : decode cX11_soonest 15 = .ok (.getfield 19, 3) := by decide +kernel
theorem dX11_soonest_18 : decode cX11_soonest 18 = .ok (.getfield 121, 3) := by decide +kernel
theorem dX11_soonest_21 : decode cX11_soonest 21 = .ok (.iload_n 2, 1) := by decide +kernel
theorem dX11_soonest_22 : decode cX11_soonest 22 = .ok (.invokevirtual 168, 3) := by decide +kernel
theorem dX11_soonest_25 : decode cX11_soonest 25 = .ok (.ifCond .ne 6, 3) := by decide +kernel
theorem dX11_soonest_28 : decode cX11_soonest 28 = .ok (.ldc 172, 2) := by decide +kernel
theorem dX11_soonest_30 : decode cX11_soonest 30 = .ok (.ireturn, 1) := by decide +kernel
theorem dX11_soonest_31 : decode cX11_soonest 31 = .ok (.aload_n 0, 1) := by decide +kernel
theorem dX11_soonest_32 : decode cX11_soonest 32 = .ok (.getfield 57, 3) := by decide +kernel
theorem dX11_soonest_35 : decode cX11_soonest 35 = .ok (.aload_n 0, 1) := by decide +kernel
theorem dX11_soonest_36 : decode cX11_soonest 36 = .ok (.getfield 19, 3) := by decide +kernel
theorem dX11_soonest_39 : decode cX11_soonest 39 = .ok (.aload_n 0, 1) := by decide +kernel
theorem dX11_soonest_40 : decode cX11_soonest 40 = .ok (.getfield 33, 3) := by decide +kernel
theorem dX11_soonest_43 : decode cX11_soonest 43 = .ok (.iload_n 1, 1) := by decide +kernel
theorem dX11_soonest_44 : decode cX11_soonest 44 = .ok (.iload_n 2, 1) := by decide +kernel
theorem dX11_soonest_45 : decode cX11_soonest 45 = .ok (.invokevirtual 261, 3) := by decide +kernel
theorem dX11_soonest_48 : decode cX11_soonest 48 = .ok (.ireturn, 1) := by decide +kernel
theorem dX11_least_0 : decode cX11_least 0 = .ok (.aload_n 0, 1) := by decide +kernel
theorem dX11_least_1 : decode cX11_least 1 = .ok (.getfield 19, 3) := by decide +kernel
theorem dX11_least_4 : decode cX11_least 4 = .ok (.getfield 121, 3) := by decide +kernel
theorem dX11_least_7 : decode cX11_least 7 = .ok (.iload_n 1, 1) := by decide +kernel
theorem dX11_least_8 : decode cX11_least 8 = .ok (.invokevirtual 168, 3) := by decide +kernel
theorem dX11_least_11 : decode cX11_least 11 = .ok (.ifCond .eq 17, 3) := by decide +kernel
theorem dX11_least_14 : decode cX11_least 14 = .ok (.aload_n 0, 1) := by decide +kernel
theorem dX11_least_15 : decode cX11_least 15 = .ok (.getfield 19, 3) := by decide +kernel
theorem dX11_least_18 : decode cX11_least 18 = .ok (.getfield 121, 3) := by decide +kernel
theorem dX11_least_21 : decode cX11_least 21 = .ok (.iload_n 2, 1) := by decide +kernel
theorem dX11_least_22 : decode cX11_least 22 = .ok (.invokevirtual 168, 3) := by decide +kernel
theorem dX11_least_25 : decode cX11_least 25 = .ok (.ifCond .ne 6, 3) := by decide +kernel
theorem dX11_least_28 : decode cX11_least 28 = .ok (.ldc 172, 2) := by decide +kernel
theorem dX11_least_30 : decode cX11_least 30 = .ok (.ireturn, 1) := by decide +kernel
theorem dX11_least_31 : decode cX11_least 31 = .ok (.iload_n 3, 1) := by decide +kernel
theorem dX11_least_32 : decode cX11_least 32 = .ok (.iconst 1, 1) := by decide +kernel
theorem dX11_least_33 : decode cX11_least 33 = .ok (.bipush 30, 2) := by decide +kernel
theorem dX11_least_35 : decode cX11_least 35 = .ok (.invokestatic 85, 3) := by decide +kernel
theorem dX11_least_38 : decode cX11_least 38 = .ok (.ifCond .eq 6, 3) := by decide +kernel
theorem dX11_least_41 : decode cX11_least 41 = .ok (.ldc 89, 2) := by decide +kernel
theorem dX11_least_43 : decode cX11_least 43 = .ok (.ireturn, 1) := by decide +kernel
theorem dX11_least_44 : decode cX11_least 44 = .ok (.aload_n 0, 1) := by decide +kernel
theorem dX11_least_45 : decode cX11_least 45 = .ok (.getfield 57, 3) := by decide +kernel
theorem dX11_least_48 : decode cX11_least 48 = .ok (.aload_n 0, 1) := by decide +kernel
theorem dX11_least_49 : decode cX11_least 49 = .ok (.getfield 19, 3) := by decide +kernel
theorem dX11_least_52 : decode cX11_least 52 = .ok (.aload_n 0, 1) := by decide +kernel
theorem dX11_least_53 : decode cX11_least 53 = .ok (.getfield 33, 3) := by decide +kernel
theorem dX11_least_56 : decode cX11_least 56 = .ok (.iload_n 2, 1) := by decide +kernel
theorem dX11_least_57 : decode cX11_least 57 = .ok (.iload_n 3, 1) := by decide +kernel
theorem dX11_least_58 : decode cX11_least 58 = .ok (.invokevirtual 265, 3) := by decide +kernel
theorem dX11_least_61 : decode cX11_least 61 = .ok (.iload 4, 2) := by decide +kernel
theorem dX11_least_63 : decode cX11_least 63 = .ok (.iconst (-1), 1) := by decide +kernel
theorem dX11_least_64 : decode cX11_least 64 = .ok (.if_icmp .ne 14, 3) := by decide +kernel
theorem dX11_least_67 : decode cX11_least 67 = .ok (.aload_n 0, 1) := by decide +kernel
theorem dX11_least_68 : decode cX11_least 68 = .ok (.getfield 57, 3) := by decide +kernel
theorem dX11_least_71 : decode cX11_least 71 = .ok (.iload_n 1, 1) := by decide +kernel
theorem dX11_least_72 : decode cX11_least 72 = .ok (.invokevirtual 269, 3) := by decide +kernel
theorem dX11_least_75 : decode cX11_least 75 = .ok (.goto 21, 3) := by decide +kernel
theorem dX11_least_78 : decode cX11_least 78 = .ok (.aload_n 0, 1) := by decide +kernel
theorem dX11_least_79 : decode cX11_least 79 = .ok (.getfield 57, 3) := by decide +kernel
theorem dX11_least_82 : decode cX11_least 82 = .ok (.aload_n 0, 1) := by decide +kernel
theorem dX11_least_83 : decode cX11_least 83 = .ok (.getfield 19, 3) := by decide +kernel
theorem dX11_least_86 : decode cX11_least 86 = .ok (.aload_n 0, 1) := by decide +kernel
theorem dX11_least_87 : decode cX11_least 87 = .ok (.getfield 33, 3) := by decide +kernel
theorem dX11_least_90 : decode cX11_least 90 = .ok (.iload_n 1, 1) := by decide +kernel
theorem dX11_least_91 : decode cX11_least 91 = .ok (.iload 4, 2) := by decide +kernel
theorem dX11_least_93 : decode cX11_least 93 = .ok (.invokevirtual 272, 3) := by decide +kernel
theorem dX11_least_96 : decode cX11_least 96 = .ok (.ireturn, 1) := by decide +kernel
theorem dX11_open_0 : decode cX11_open 0 = .ok (.aload_n 0, 1) := by decide +kernel
theorem dX11_open_1 : decode cX11_open 1 = .ok (.getfield 19, 3) := by decide +kernel
theorem dX11_open_4 : decode cX11_open 4 = .ok (.getfield 131, 3) := by decide +kernel
theorem dX11_open_7 : decode cX11_open 7 = .ok (.iload_n 1, 1) := by decide +kernel
theorem dX11_open_8 : decode cX11_open 8 = .ok (.invokevirtual 275, 3) := by decide +kernel
theorem dX11_open_11 : decode cX11_open 11 = .ok (.ifCond .eq 24, 3) := by decide +kernel
theorem dX11_open_14 : decode cX11_open 14 = .ok (.aload_n 0, 1) := by decide +kernel
theorem dX11_open_15 : decode cX11_open 15 = .ok (.getfield 19, 3) := by decide +kernel
theorem dX11_open_18 : decode cX11_open 18 = .ok (.getfield 131, 3) := by decide +kernel
theorem dX11_open_21 : decode cX11_open 21 = .ok (.iload_n 1, 1) := by decide +kernel
theorem dX11_open_22 : decode cX11_open 22 = .ok (.aload_n 0, 1) := by decide +kernel
theorem dX11_open_23 : decode cX11_open 23 = .ok (.getfield 33, 3) := by decide +kernel
theorem dX11_open_26 : decode cX11_open 26 = .ok (.getfield 138, 3) := by decide +kernel
theorem dX11_open_29 : decode cX11_open 29 = .ok (.invokevirtual 278, 3) := by decide +kernel
theorem dX11_open_32 : decode cX11_open 32 = .ok (.goto 5, 3) := by decide +kernel
theorem dX11_open_35 : decode cX11_open 35 = .ok (.ldc 172, 2) := by decide +kernel
theorem dX11_open_37 : decode cX11_open 37 = .ok (.ireturn, 1) := by decide +kernel
theorem dX11_longest_0 : decode cX11_longest 0 = .ok (.aload_n 0, 1) := by decide +kernel
theorem dX11_longest_1 : decode cX11_longest 1 = .ok (.getfield 19, 3) := by decide +kernel
theorem dX11_longest_4 : decode cX11_longest 4 = .ok (.getfield 131, 3) := by decide +kernel
theorem dX11_longest_7 : decode cX11_longest 7 = .ok (.iload_n 1, 1) := by decide +kernel
theorem dX11_longest_8 : decode cX11_longest 8 = .ok (.invokevirtual 275, 3) := by decide +kernel
theorem dX11_longest_11 : decode cX11_longest 11 = .ok (.ifCond .eq 17, 3) := by decide +kernel
theorem dX11_longest_14 : decode cX11_longest 14 = .ok (.aload_n 0, 1) := by decide +kernel
theorem dX11_longest_15 : decode cX11_longest 15 = .ok (.getfield 19, 3) := by decide +kernel
theorem dX11_longest_18 : decode cX11_longest 18 = .ok (.getfield 131, 3) := by decide +kernel
