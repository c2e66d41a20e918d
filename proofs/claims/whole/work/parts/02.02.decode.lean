theorem dX11_longest_21 : decode cX11_longest 21 = .ok (.iload_n 1, 1) := by decide +kernel
theorem dX11_longest_22 : decode cX11_longest 22 = .ok (.invokevirtual 281, 3) := by decide +kernel
theorem dX11_longest_25 : decode cX11_longest 25 = .ok (.goto 5, 3) := by decide +kernel
theorem dX11_longest_28 : decode cX11_longest 28 = .ok (.ldc 172, 2) := by decide +kernel
theorem dX11_longest_30 : decode cX11_longest 30 = .ok (.ireturn, 1) := by decide +kernel
theorem dX11_hear_0 : decode cX11_hear 0 = .ok (.aload_n 0, 1) := by decide +kernel
theorem dX11_hear_1 : decode cX11_hear 1 = .ok (.getfield 19, 3) := by decide +kernel
theorem dX11_hear_4 : decode cX11_hear 4 = .ok (.getfield 121, 3) := by decide +kernel
theorem dX11_hear_7 : decode cX11_hear 7 = .ok (.iload_n 1, 1) := by decide +kernel
theorem dX11_hear_8 : decode cX11_hear 8 = .ok (.invokevirtual 168, 3) := by decide +kernel
theorem dX11_hear_11 : decode cX11_hear 11 = .ok (.ifCond .ne 6, 3) := by decide +kernel
theorem dX11_hear_14 : decode cX11_hear 14 = .ok (.ldc 172, 2) := by decide +kernel
theorem dX11_hear_16 : decode cX11_hear 16 = .ok (.ireturn, 1) := by decide +kernel
theorem dX11_hear_17 : decode cX11_hear 17 = .ok (.iload_n 2, 1) := by decide +kernel
theorem dX11_hear_18 : decode cX11_hear 18 = .ok (.iconst 0, 1) := by decide +kernel
theorem dX11_hear_19 : decode cX11_hear 19 = .ok (.bipush 30, 2) := by decide +kernel
theorem dX11_hear_21 : decode cX11_hear 21 = .ok (.invokestatic 85, 3) := by decide +kernel
theorem dX11_hear_24 : decode cX11_hear 24 = .ok (.ifCond .eq 6, 3) := by decide +kernel
theorem dX11_hear_27 : decode cX11_hear 27 = .ok (.ldc 89, 2) := by decide +kernel
theorem dX11_hear_29 : decode cX11_hear 29 = .ok (.ireturn, 1) := by decide +kernel
theorem dX11_hear_30 : decode cX11_hear 30 = .ok (.aload_n 0, 1) := by decide +kernel
theorem dX11_hear_31 : decode cX11_hear 31 = .ok (.getfield 64, 3) := by decide +kernel
theorem dX11_hear_34 : decode cX11_hear 34 = .ok (.getfield 153, 3) := by decide +kernel
theorem dX11_hear_37 : decode cX11_hear 37 = .ok (.bipush 12, 2) := by decide +kernel
theorem dX11_hear_39 : decode cX11_hear 39 = .ok (.if_icmp .lt 8, 3) := by decide +kernel
theorem dX11_hear_42 : decode cX11_hear 42 = .ok (.ldc 93, 2) := by decide +kernel
theorem dX11_hear_44 : decode cX11_hear 44 = .ok (.goto 12, 3) := by decide +kernel
theorem dX11_hear_47 : decode cX11_hear 47 = .ok (.aload_n 0, 1) := by decide +kernel
theorem dX11_hear_48 : decode cX11_hear 48 = .ok (.getfield 64, 3) := by decide +kernel
theorem dX11_hear_51 : decode cX11_hear 51 = .ok (.iload_n 1, 1) := by decide +kernel
theorem dX11_hear_52 : decode cX11_hear 52 = .ok (.iload_n 2, 1) := by decide +kernel
theorem dX11_hear_53 : decode cX11_hear 53 = .ok (.invokevirtual 284, 3) := by decide +kernel
theorem dX11_hear_56 : decode cX11_hear 56 = .ok (.ireturn, 1) := by decide +kernel
theorem dX11_began_0 : decode cX11_began 0 = .ok (.aload_n 0, 1) := by decide +kernel
theorem dX11_began_1 : decode cX11_began 1 = .ok (.getfield 64, 3) := by decide +kernel
theorem dX11_began_4 : decode cX11_began 4 = .ok (.aload_n 0, 1) := by decide +kernel
theorem dX11_began_5 : decode cX11_began 5 = .ok (.getfield 19, 3) := by decide +kernel
theorem dX11_began_8 : decode cX11_began 8 = .ok (.getfield 121, 3) := by decide +kernel
theorem dX11_began_11 : decode cX11_began 11 = .ok (.getfield 125, 3) := by decide +kernel
theorem dX11_began_14 : decode cX11_began 14 = .ok (.invokevirtual 286, 3) := by decide +kernel
theorem dX11_began_17 : decode cX11_began 17 = .ok (.istore_n 2, 1) := by decide +kernel
theorem dX11_began_18 : decode cX11_began 18 = .ok (.iload_n 1, 1) := by decide +kernel
theorem dX11_began_19 : decode cX11_began 19 = .ok (.iconst (-1), 1) := by decide +kernel
theorem dX11_began_20 : decode cX11_began 20 = .ok (.if_icmp .ne 5, 3) := by decide +kernel
theorem dX11_began_23 : decode cX11_began 23 = .ok (.iload_n 2, 1) := by decide +kernel
theorem dX11_began_24 : decode cX11_began 24 = .ok (.ireturn, 1) := by decide +kernel
theorem dX11_began_25 : decode cX11_began 25 = .ok (.iload_n 1, 1) := by decide +kernel
theorem dX11_began_26 : decode cX11_began 26 = .ok (.iconst 0, 1) := by decide +kernel
theorem dX11_began_27 : decode cX11_began 27 = .ok (.iload_n 2, 1) := by decide +kernel
theorem dX11_began_28 : decode cX11_began 28 = .ok (.iconst 1, 1) := by decide +kernel
theorem dX11_began_29 : decode cX11_began 29 = .ok (.isub, 1) := by decide +kernel
theorem dX11_began_30 : decode cX11_began 30 = .ok (.invokestatic 85, 3) := by decide +kernel
theorem dX11_began_33 : decode cX11_began 33 = .ok (.ifCond .eq 7, 3) := by decide +kernel
theorem dX11_began_36 : decode cX11_began 36 = .ok (.iconst (-1), 1) := by decide +kernel
theorem dX11_began_37 : decode cX11_began 37 = .ok (.goto 12, 3) := by decide +kernel
theorem dX11_began_40 : decode cX11_began 40 = .ok (.aload_n 0, 1) := by decide +kernel
theorem dX11_began_41 : decode cX11_began 41 = .ok (.getfield 64, 3) := by decide +kernel
theorem dX11_began_44 : decode cX11_began 44 = .ok (.getfield 289, 3) := by decide +kernel
theorem dX11_began_47 : decode cX11_began 47 = .ok (.iload_n 1, 1) := by decide +kernel
theorem dX11_began_48 : decode cX11_began 48 = .ok (.iaload, 1) := by decide +kernel
theorem dX11_began_49 : decode cX11_began 49 = .ok (.ireturn, 1) := by decide +kernel
theorem dX11_watch_0 : decode cX11_watch 0 = .ok (.aload_n 0, 1) := by decide +kernel
theorem dX11_watch_1 : decode cX11_watch 1 = .ok (.getfield 19, 3) := by decide +kernel
theorem dX11_watch_4 : decode cX11_watch 4 = .ok (.getfield 121, 3) := by decide +kernel
theorem dX11_watch_7 : decode cX11_watch 7 = .ok (.getfield 125, 3) := by decide +kernel
theorem dX11_watch_10 : decode cX11_watch 10 = .ok (.istore_n 1, 1) := by decide +kernel
theorem dX11_watch_11 : decode cX11_watch 11 = .ok (.aload_n 0, 1) := by decide +kernel
theorem dX11_watch_12 : decode cX11_watch 12 = .ok (.getfield 64, 3) := by decide +kernel
theorem dX11_watch_15 : decode cX11_watch 15 = .ok (.aload_n 0, 1) := by decide +kernel
theorem dX11_watch_16 : decode cX11_watch 16 = .ok (.getfield 64, 3) := by decide +kernel
theorem dX11_watch_19 : decode cX11_watch 19 = .ok (.iload_n 1, 1) := by decide +kernel
theorem dX11_watch_20 : decode cX11_watch 20 = .ok (.invokevirtual 286, 3) := by decide +kernel
theorem dX11_watch_23 : decode cX11_watch 23 = .ok (.iload_n 1, 1) := by decide +kernel
theorem dX11_watch_24 : decode cX11_watch 24 = .ok (.invokevirtual 292, 3) := by decide +kernel
theorem dX11_watch_27 : decode cX11_watch 27 = .ok (.ireturn, 1) := by decide +kernel
theorem dX11_see_0 : decode cX11_see 0 = .ok (.aload_n 0, 1) := by decide +kernel
theorem dX11_see_1 : decode cX11_see 1 = .ok (.getfield 19, 3) := by decide +kernel
theorem dX11_see_4 : decode cX11_see 4 = .ok (.getfield 121, 3) := by decide +kernel
theorem dX11_see_7 : decode cX11_see 7 = .ok (.iload_n 1, 1) := by decide +kernel
theorem dX11_see_8 : decode cX11_see 8 = .ok (.invokevirtual 168, 3) := by decide +kernel
theorem dX11_see_11 : decode cX11_see 11 = .ok (.ifCond .ne 6, 3) := by decide +kernel
theorem dX11_see_14 : decode cX11_see 14 = .ok (.ldc 172, 2) := by decide +kernel
theorem dX11_see_16 : decode cX11_see 16 = .ok (.ireturn, 1) := by decide +kernel
theorem dX11_see_17 : decode cX11_see 17 = .ok (.iload_n 2, 1) := by decide +kernel
theorem dX11_see_18 : decode cX11_see 18 = .ok (.iconst 0, 1) := by decide +kernel
theorem dX11_see_19 : decode cX11_see 19 = .ok (.sipush 9999, 3) := by decide +kernel
theorem dX11_see_22 : decode cX11_see 22 = .ok (.invokestatic 85, 3) := by decide +kernel
theorem dX11_see_25 : decode cX11_see 25 = .ok (.ifCond .ne 14, 3) := by decide +kernel
theorem dX11_see_28 : decode cX11_see 28 = .ok (.iload_n 3, 1) := by decide +kernel
theorem dX11_see_29 : decode cX11_see 29 = .ok (.iconst 0, 1) := by decide +kernel
theorem dX11_see_30 : decode cX11_see 30 = .ok (.sipush 999, 3) := by decide +kernel
theorem dX11_see_33 : decode cX11_see 33 = .ok (.invokestatic 85, 3) := by decide +kernel
theorem dX11_see_36 : decode cX11_see 36 = .ok (.ifCond .eq 6, 3) := by decide +kernel
theorem dX11_see_39 : decode cX11_see 39 = .ok (.ldc 89, 2) := by decide +kernel
theorem dX11_see_41 : decode cX11_see 41 = .ok (.ireturn, 1) := by decide +kernel
theorem dX11_see_42 : decode cX11_see 42 = .ok (.aload_n 0, 1) := by decide +kernel
theorem dX11_see_43 : decode cX11_see 43 = .ok (.getfield 71, 3) := by decide +kernel
theorem dX11_see_46 : decode cX11_see 46 = .ok (.getfield 156, 3) := by decide +kernel
theorem dX11_see_49 : decode cX11_see 49 = .ok (.bipush 12, 2) := by decide +kernel
theorem dX11_see_51 : decode cX11_see 51 = .ok (.if_icmp .lt 8, 3) := by decide +kernel
theorem dX11_see_54 : decode cX11_see 54 = .ok (.ldc 93, 2) := by decide +kernel
theorem dX11_see_56 : decode cX11_see 56 = .ok (.goto 13, 3) := by decide +kernel
theorem dX11_see_59 : decode cX11_see 59 = .ok (.aload_n 0, 1) := by decide +kernel
theorem dX11_see_60 : decode cX11_see 60 = .ok (.getfield 71, 3) := by decide +kernel
theorem dX11_see_63 : decode cX11_see 63 = .ok (.iload_n 1, 1) := by decide +kernel
theorem dX11_see_64 : decode cX11_see 64 = .ok (.iload_n 2, 1) := by decide +kernel
theorem dX11_see_65 : decode cX11_see 65 = .ok (.iload_n 3, 1) := by decide +kernel
theorem dX11_see_66 : decode cX11_see 66 = .ok (.invokevirtual 295, 3) := by decide +kernel
theorem dX11_see_69 : decode cX11_see 69 = .ok (.ireturn, 1) := by decide +kernel
theorem dX11_rounds_0 : decode cX11_rounds 0 = .ok (.aload_n 0, 1) := by decide +kernel
theorem dX11_rounds_1 : decode cX11_rounds 1 = .ok (.getfield 19, 3) := by decide +kernel
theorem dX11_rounds_4 : decode cX11_rounds 4 = .ok (.getfield 121, 3) := by decide +kernel
theorem dX11_rounds_7 : decode cX11_rounds 7 = .ok (.iload_n 1, 1) := by decide +kernel
theorem dX11_rounds_8 : decode cX11_rounds 8 = .ok (.invokevirtual 168, 3) := by decide +kernel
theorem dX11_rounds_11 : decode cX11_rounds 11 = .ok (.ifCond .ne 6, 3) := by decide +kernel
theorem dX11_rounds_14 : decode cX11_rounds 14 = .ok (.ldc 172, 2) := by decide +kernel
theorem dX11_rounds_16 : decode cX11_rounds 16 = .ok (.ireturn, 1) := by decide +kernel
theorem dX11_rounds_17 : decode cX11_rounds 17 = .ok (.iload_n 2, 1) := by decide +kernel
theorem dX11_rounds_18 : decode cX11_rounds 18 = .ok (.iconst (-1), 1) := by decide +kernel
theorem dX11_rounds_19 : decode cX11_rounds 19 = .ok (.if_icmp .ne 21, 3) := by decide +kernel
theorem dX11_rounds_22 : decode cX11_rounds 22 = .ok (.aload_n 0, 1) := by decide +kernel
theorem dX11_rounds_23 : decode cX11_rounds 23 = .ok (.getfield 71, 3) := by decide +kernel
theorem dX11_rounds_26 : decode cX11_rounds 26 = .ok (.aload_n 0, 1) := by decide +kernel
theorem dX11_rounds_27 : decode cX11_rounds 27 = .ok (.getfield 19, 3) := by decide +kernel
theorem dX11_rounds_30 : decode cX11_rounds 30 = .ok (.getfield 121, 3) := by decide +kernel
theorem dX11_rounds_33 : decode cX11_rounds 33 = .ok (.iload_n 1, 1) := by decide +kernel
theorem dX11_rounds_34 : decode cX11_rounds 34 = .ok (.invokevirtual 297, 3) := by decide +kernel
theorem dX11_rounds_37 : decode cX11_rounds 37 = .ok (.goto 19, 3) := by decide +kernel
theorem dX11_rounds_40 : decode cX11_rounds 40 = .ok (.aload_n 0, 1) := by decide +kernel
theorem dX11_rounds_41 : decode cX11_rounds 41 = .ok (.getfield 71, 3) := by decide +kernel
theorem dX11_rounds_44 : decode cX11_rounds 44 = .ok (.aload_n 0, 1) := by decide +kernel
theorem dX11_rounds_45 : decode cX11_rounds 45 = .ok (.getfield 19, 3) := by decide +kernel
theorem dX11_rounds_48 : decode cX11_rounds 48 = .ok (.getfield 121, 3) := by decide +kernel
theorem dX11_rounds_51 : decode cX11_rounds 51 = .ok (.iload_n 1, 1) := by decide +kernel
theorem dX11_rounds_52 : decode cX11_rounds 52 = .ok (.iload_n 2, 1) := by decide +kernel
theorem dX11_rounds_53 : decode cX11_rounds 53 = .ok (.invokevirtual 301, 3) := by decide +kernel
theorem dX11_rounds_56 : decode cX11_rounds 56 = .ok (.ireturn, 1) := by decide +kernel
theorem dX11_cellars_0 : decode cX11_cellars 0 = .ok (.iload_n 1, 1) := by decide +kernel
theorem dX11_cellars_1 : decode cX11_cellars 1 = .ok (.iconst 0, 1) := by decide +kernel
theorem dX11_cellars_2 : decode cX11_cellars 2 = .ok (.sipush 999, 3) := by decide +kernel
theorem dX11_cellars_5 : decode cX11_cellars 5 = .ok (.invokestatic 85, 3) := by decide +kernel
theorem dX11_cellars_8 : decode cX11_cellars 8 = .ok (.ifCond .ne 13, 3) := by decide +kernel
theorem dX11_cellars_11 : decode cX11_cellars 11 = .ok (.iload_n 2, 1) := by decide +kernel
theorem dX11_cellars_12 : decode cX11_cellars 12 = .ok (.iconst 1, 1) := by decide +kernel
theorem dX11_cellars_13 : decode cX11_cellars 13 = .ok (.bipush 40, 2) := by decide +kernel
theorem dX11_cellars_15 : decode cX11_cellars 15 = .ok (.invokestatic 85, 3) := by decide +kernel
theorem dX11_cellars_18 : decode cX11_cellars 18 = .ok (.ifCond .eq 6, 3) := by decide +kernel
theorem dX11_cellars_21 : decode cX11_cellars 21 = .ok (.ldc 89, 2) := by decide +kernel
theorem dX11_cellars_23 : decode cX11_cellars 23 = .ok (.ireturn, 1) := by decide +kernel
theorem dX11_cellars_24 : decode cX11_cellars 24 = .ok (.aload_n 0, 1) := by decide +kernel
theorem dX11_cellars_25 : decode cX11_cellars 25 = .ok (.getfield 19, 3) := by decide +kernel
theorem dX11_cellars_28 : decode cX11_cellars 28 = .ok (.getfield 121, 3) := by decide +kernel
theorem dX11_cellars_31 : decode cX11_cellars 31 = .ok (.iload_n 1, 1) := by decide +kernel
theorem dX11_cellars_32 : decode cX11_cellars 32 = .ok (.aload_n 0, 1) := by decide +kernel
theorem dX11_cellars_33 : decode cX11_cellars 33 = .ok (.getfield 33, 3) := by decide +kernel
theorem dX11_cellars_36 : decode cX11_cellars 36 = .ok (.getfield 141, 3) := by decide +kernel
theorem dX11_cellars_39 : decode cX11_cellars 39 = .ok (.iload_n 2, 1) := by decide +kernel
theorem dX11_cellars_40 : decode cX11_cellars 40 = .ok (.invokevirtual 305, 3) := by decide +kernel
theorem dX11_cellars_43 : decode cX11_cellars 43 = .ok (.ireturn, 1) := by decide +kernel
theorem dX11_sluices_0 : decode cX11_sluices 0 = .ok (.iload_n 1, 1) := by decide +kernel
theorem dX11_sluices_1 : decode cX11_sluices 1 = .ok (.iconst 0, 1) := by decide +kernel
theorem dX11_sluices_2 : decode cX11_sluices 2 = .ok (.sipush 999, 3) := by decide +kernel
theorem dX11_sluices_5 : decode cX11_sluices 5 = .ok (.invokestatic 85, 3) := by decide +kernel
theorem dX11_sluices_8 : decode cX11_sluices 8 = .ok (.ifCond .ne 22, 3) := by decide +kernel
theorem dX11_sluices_11 : decode cX11_sluices 11 = .ok (.iload_n 2, 1) := by decide +kernel
theorem dX11_sluices_12 : decode cX11_sluices 12 = .ok (.iconst 1, 1) := by decide +kernel
theorem dX11_sluices_13 : decode cX11_sluices 13 = .ok (.bipush 40, 2) := by decide +kernel
theorem dX11_sluices_15 : decode cX11_sluices 15 = .ok (.invokestatic 85, 3) := by decide +kernel
theorem dX11_sluices_18 : decode cX11_sluices 18 = .ok (.ifCond .ne 12, 3) := by decide +kernel
theorem dX11_sluices_21 : decode cX11_sluices 21 = .ok (.iload_n 3, 1) := by decide +kernel
theorem dX11_sluices_22 : decode cX11_sluices 22 = .ok (.iconst 0, 1) := by decide +kernel
theorem dX11_sluices_23 : decode cX11_sluices 23 = .ok (.iconst 1, 1) := by decide +kernel
theorem dX11_sluices_24 : decode cX11_sluices 24 = .ok (.invokestatic 85, 3) := by decide +kernel
theorem dX11_sluices_27 : decode cX11_sluices 27 = .ok (.ifCond .eq 6, 3) := by decide +kernel
theorem dX11_sluices_30 : decode cX11_sluices 30 = .ok (.ldc 89, 2) := by decide +kernel
theorem dX11_sluices_32 : decode cX11_sluices 32 = .ok (.ireturn, 1) := by decide +kernel
theorem dX11_sluices_33 : decode cX11_sluices 33 = .ok (.aload_n 0, 1) := by decide +kernel
theorem dX11_sluices_34 : decode cX11_sluices 34 = .ok (.getfield 19, 3) := by decide +kernel
theorem dX11_sluices_37 : decode cX11_sluices 37 = .ok (.getfield 121, 3) := by decide +kernel
theorem dX11_sluices_40 : decode cX11_sluices 40 = .ok (.aload_n 0, 1) := by decide +kernel
theorem dX11_sluices_41 : decode cX11_sluices 41 = .ok (.getfield 19, 3) := by decide +kernel
theorem dX11_sluices_44 : decode cX11_sluices 44 = .ok (.getfield 121, 3) := by decide +kernel
theorem dX11_sluices_47 : decode cX11_sluices 47 = .ok (.iload_n 1, 1) := by decide +kernel
theorem dX11_sluices_48 : decode cX11_sluices 48 = .ok (.aload_n 0, 1) := by decide +kernel
theorem dX11_sluices_49 : decode cX11_sluices 49 = .ok (.getfield 33, 3) := by decide +kernel
theorem dX11_sluices_52 : decode cX11_sluices 52 = .ok (.getfield 141, 3) := by decide +kernel
theorem dX11_sluices_55 : decode cX11_sluices 55 = .ok (.iload_n 2, 1) := by decide +kernel
theorem dX11_sluices_56 : decode cX11_sluices 56 = .ok (.invokevirtual 305, 3) := by decide +kernel
theorem dX11_sluices_59 : decode cX11_sluices 59 = .ok (.invokevirtual 308, 3) := by decide +kernel
theorem dX11_sluices_62 : decode cX11_sluices 62 = .ok (.istore 4, 2) := by decide +kernel
theorem dX11_sluices_64 : decode cX11_sluices 64 = .ok (.iload 4, 2) := by decide +kernel
theorem dX11_sluices_66 : decode cX11_sluices 66 = .ok (.iconst (-1), 1) := by decide +kernel
theorem dX11_sluices_67 : decode cX11_sluices 67 = .ok (.if_icmp .ne 5, 3) := by decide +kernel
theorem dX11_sluices_70 : decode cX11_sluices 70 = .ok (.iconst (-1), 1) := by decide +kernel
theorem dX11_sluices_71 : decode cX11_sluices 71 = .ok (.ireturn, 1) := by decide +kernel
theorem dX11_sluices_72 : decode cX11_sluices 72 = .ok (.iload_n 3, 1) := by decide +kernel
theorem dX11_sluices_73 : decode cX11_sluices 73 = .ok (.ifCond .ne 11, 3) := by decide +kernel
theorem dX11_sluices_76 : decode cX11_sluices 76 = .ok (.iload 4, 2) := by decide +kernel
theorem dX11_sluices_78 : decode cX11_sluices 78 = .ok (.invokestatic 311, 3) := by decide +kernel
theorem dX11_sluices_81 : decode cX11_sluices 81 = .ok (.goto 5, 3) := by decide +kernel
theorem dX11_sluices_84 : decode cX11_sluices 84 = .ok (.iload 4, 2) := by decide +kernel
theorem dX11_sluices_86 : decode cX11_sluices 86 = .ok (.ireturn, 1) := by decide +kernel
theorem dX11_odds_0 : decode cX11_odds 0 = .ok (.aload_n 0, 1) := by decide +kernel
theorem dX11_odds_1 : decode cX11_odds 1 = .ok (.getfield 19, 3) := by decide +kernel
theorem dX11_odds_4 : decode cX11_odds 4 = .ok (.getfield 121, 3) := by decide +kernel
theorem dX11_odds_7 : decode cX11_odds 7 = .ok (.iload_n 1, 1) := by decide +kernel
theorem dX11_odds_8 : decode cX11_odds 8 = .ok (.invokevirtual 168, 3) := by decide +kernel
theorem dX11_odds_11 : decode cX11_odds 11 = .ok (.ifCond .ne 6, 3) := by decide +kernel
theorem dX11_odds_14 : decode cX11_odds 14 = .ok (.ldc 172, 2) := by decide +kernel
theorem dX11_odds_16 : decode cX11_odds 16 = .ok (.ireturn, 1) := by decide +kernel
theorem dX11_odds_17 : decode cX11_odds 17 = .ok (.iload_n 2, 1) := by decide +kernel
theorem dX11_odds_18 : decode cX11_odds 18 = .ok (.iconst 0, 1) := by decide +kernel
theorem dX11_odds_19 : decode cX11_odds 19 = .ok (.sipush 999, 3) := by decide +kernel
theorem dX11_odds_22 : decode cX11_odds 22 = .ok (.invokestatic 85, 3) := by decide +kernel
theorem dX11_odds_25 : decode cX11_odds 25 = .ok (.ifCond .ne 24, 3) := by decide +kernel
theorem dX11_odds_28 : decode cX11_odds 28 = .ok (.iload_n 3, 1) := by decide +kernel
theorem dX11_odds_29 : decode cX11_odds 29 = .ok (.iconst 1, 1) := by decide +kernel
theorem dX11_odds_30 : decode cX11_odds 30 = .ok (.bipush 20, 2) := by decide +kernel
theorem dX11_odds_32 : decode cX11_odds 32 = .ok (.invokestatic 85, 3) := by decide +kernel
theorem dX11_odds_35 : decode cX11_odds 35 = .ok (.ifCond .ne 14, 3) := by decide +kernel
theorem dX11_odds_38 : decode cX11_odds 38 = .ok (.iload 4, 2) := by decide +kernel
theorem dX11_odds_40 : decode cX11_odds 40 = .ok (.iconst 0, 1) := by decide +kernel
theorem dX11_odds_41 : decode cX11_odds 41 = .ok (.bipush 100, 2) := by decide +kernel
theorem dX11_odds_43 : decode cX11_odds 43 = .ok (.invokestatic 85, 3) := by decide +kernel
theorem dX11_odds_46 : decode cX11_odds 46 = .ok (.ifCond .eq 6, 3) := by decide +kernel
theorem dX11_odds_49 : decode cX11_odds 49 = .ok (.ldc 89, 2) := by decide +kernel
theorem dX11_odds_51 : decode cX11_odds 51 = .ok (.ireturn, 1) := by decide +kernel
theorem dX11_odds_52 : decode cX11_odds 52 = .ok (.aload_n 0, 1) := by decide +kernel
theorem dX11_odds_53 : decode cX11_odds 53 = .ok (.getfield 19, 3) := by decide +kernel
theorem dX11_odds_56 : decode cX11_odds 56 = .ok (.getfield 121, 3) := by decide +kernel
theorem dX11_odds_59 : decode cX11_odds 59 = .ok (.iload_n 1, 1) := by decide +kernel
theorem dX11_odds_60 : decode cX11_odds 60 = .ok (.iload_n 2, 1) := by decide +kernel
theorem dX11_odds_61 : decode cX11_odds 61 = .ok (.aload_n 0, 1) := by decide +kernel
theorem dX11_odds_62 : decode cX11_odds 62 = .ok (.getfield 33, 3) := by decide +kernel
theorem dX11_odds_65 : decode cX11_odds 65 = .ok (.getfield 141, 3) := by decide +kernel
theorem dX11_odds_68 : decode cX11_odds 68 = .ok (.iload_n 3, 1) := by decide +kernel
theorem dX11_odds_69 : decode cX11_odds 69 = .ok (.iload 4, 2) := by decide +kernel
theorem dX11_odds_71 : decode cX11_odds 71 = .ok (.invokevirtual 316, 3) := by decide +kernel
theorem dX11_odds_74 : decode cX11_odds 74 = .ok (.ireturn, 1) := by decide +kernel
theorem dX11_write_0 : decode cX11_write 0 = .ok (.iload_n 1, 1) := by decide +kernel
theorem dX11_write_1 : decode cX11_write 1 = .ok (.iconst 0, 1) := by decide +kernel
theorem dX11_write_2 : decode cX11_write 2 = .ok (.iconst 2, 1) := by decide +kernel
theorem dX11_write_3 : decode cX11_write 3 = .ok (.invokestatic 85, 3) := by decide +kernel
theorem dX11_write_6 : decode cX11_write 6 = .ok (.ifCond .eq 6, 3) := by decide +kernel
theorem dX11_write_9 : decode cX11_write 9 = .ok (.ldc 89, 2) := by decide +kernel
theorem dX11_write_11 : decode cX11_write 11 = .ok (.ireturn, 1) := by decide +kernel
theorem dX11_write_12 : decode cX11_write 12 = .ok (.aload_n 0, 1) := by decide +kernel
theorem dX11_write_13 : decode cX11_write 13 = .ok (.getfield 78, 3) := by decide +kernel
theorem dX11_write_16 : decode cX11_write 16 = .ok (.getfield 159, 3) := by decide +kernel
theorem dX11_write_19 : decode cX11_write 19 = .ok (.bipush 30, 2) := by decide +kernel
theorem dX11_write_21 : decode cX11_write 21 = .ok (.if_icmp .lt 8, 3) := by decide +kernel
theorem dX11_write_24 : decode cX11_write 24 = .ok (.ldc 93, 2) := by decide +kernel
theorem dX11_write_26 : decode cX11_write 26 = .ok (.goto 11, 3) := by decide +kernel
theorem dX11_write_29 : decode cX11_write 29 = .ok (.aload_n 0, 1) := by decide +kernel
theorem dX11_write_30 : decode cX11_write 30 = .ok (.getfield 78, 3) := by decide +kernel
theorem dX11_write_33 : decode cX11_write 33 = .ok (.iload_n 1, 1) := by decide +kernel
theorem dX11_write_34 : decode cX11_write 34 = .ok (.invokevirtual 320, 3) := by decide +kernel
theorem dX11_write_37 : decode cX11_write 37 = .ok (.ireturn, 1) := by decide +kernel
theorem dX11_judge_0 : decode cX11_judge 0 = .ok (.iload_n 1, 1) := by decide +kernel
theorem dX11_judge_1 : decode cX11_judge 1 = .ok (.iconst 0, 1) := by decide +kernel
theorem dX11_judge_2 : decode cX11_judge 2 = .ok (.iconst 1, 1) := by decide +kernel
theorem dX11_judge_3 : decode cX11_judge 3 = .ok (.invokestatic 85, 3) := by decide +kernel
theorem dX11_judge_6 : decode cX11_judge 6 = .ok (.ifCond .eq 6, 3) := by decide +kernel
theorem dX11_judge_9 : decode cX11_judge 9 = .ok (.ldc 89, 2) := by decide +kernel
theorem dX11_judge_11 : decode cX11_judge 11 = .ok (.ireturn, 1) := by decide +kernel
theorem dX11_judge_12 : decode cX11_judge 12 = .ok (.aload_n 0, 1) := by decide +kernel
theorem dX11_judge_13 : decode cX11_judge 13 = .ok (.getfield 19, 3) := by decide +kernel
theorem dX11_judge_16 : decode cX11_judge 16 = .ok (.getfield 121, 3) := by decide +kernel
theorem dX11_judge_19 : decode cX11_judge 19 = .ok (.getfield 125, 3) := by decide +kernel
theorem dX11_judge_22 : decode cX11_judge 22 = .ok (.ifCond .ne 6, 3) := by decide +kernel
theorem dX11_judge_25 : decode cX11_judge 25 = .ok (.ldc 225, 2) := by decide +kernel
theorem dX11_judge_27 : decode cX11_judge 27 = .ok (.ireturn, 1) := by decide +kernel
theorem dX11_judge_28 : decode cX11_judge 28 = .ok (.aload_n 0, 1) := by decide +kernel
theorem dX11_judge_29 : decode cX11_judge 29 = .ok (.getfield 78, 3) := by decide +kernel
theorem dX11_judge_32 : decode cX11_judge 32 = .ok (.aload_n 0, 1) := by decide +kernel
theorem dX11_judge_33 : decode cX11_judge 33 = .ok (.getfield 19, 3) := by decide +kernel
theorem dX11_judge_36 : decode cX11_judge 36 = .ok (.aload_n 0, 1) := by decide +kernel
theorem dX11_judge_37 : decode cX11_judge 37 = .ok (.getfield 33, 3) := by decide +kernel
theorem dX11_judge_40 : decode cX11_judge 40 = .ok (.invokevirtual 322, 3) := by decide +kernel
theorem dX11_judge_43 : decode cX11_judge 43 = .ok (.istore_n 2, 1) := by decide +kernel
theorem dX11_judge_44 : decode cX11_judge 44 = .ok (.iload_n 1, 1) := by decide +kernel
theorem dX11_judge_45 : decode cX11_judge 45 = .ok (.ifCond .ne 7, 3) := by decide +kernel
theorem dX11_judge_48 : decode cX11_judge 48 = .ok (.iload_n 2, 1) := by decide +kernel
theorem dX11_judge_49 : decode cX11_judge 49 = .ok (.goto 10, 3) := by decide +kernel
theorem dX11_judge_52 : decode cX11_judge 52 = .ok (.aload_n 0, 1) := by decide +kernel
theorem dX11_judge_53 : decode cX11_judge 53 = .ok (.getfield 78, 3) := by decide +kernel
theorem dX11_judge_56 : decode cX11_judge 56 = .ok (.getfield 326, 3) := by decide +kernel
theorem dX11_judge_59 : decode cX11_judge 59 = .ok (.ireturn, 1) := by decide +kernel
theorem dX11_tear_0 : decode cX11_tear 0 = .ok (.aload_n 0, 1) := by decide +kernel
theorem dX11_tear_1 : decode cX11_tear 1 = .ok (.getfield 64, 3) := by decide +kernel
theorem dX11_tear_4 : decode cX11_tear 4 = .ok (.getfield 153, 3) := by decide +kernel
theorem dX11_tear_7 : decode cX11_tear 7 = .ok (.aload_n 0, 1) := by decide +kernel
theorem dX11_tear_8 : decode cX11_tear 8 = .ok (.getfield 71, 3) := by decide +kernel
theorem dX11_tear_11 : decode cX11_tear 11 = .ok (.getfield 156, 3) := by decide +kernel
theorem dX11_tear_14 : decode cX11_tear 14 = .ok (.iadd, 1) := by decide +kernel
theorem dX11_tear_15 : decode cX11_tear 15 = .ok (.aload_n 0, 1) := by decide +kernel
theorem dX11_tear_16 : decode cX11_tear 16 = .ok (.getfield 78, 3) := by decide +kernel
theorem dX11_tear_19 : decode cX11_tear 19 = .ok (.getfield 159, 3) := by decide +kernel
theorem dX11_tear_22 : decode cX11_tear 22 = .ok (.iadd, 1) := by decide +kernel
theorem dX11_tear_23 : decode cX11_tear 23 = .ok (.istore_n 1, 1) := by decide +kernel
theorem dX11_tear_24 : decode cX11_tear 24 = .ok (.aload_n 0, 1) := by decide +kernel
theorem dX11_tear_25 : decode cX11_tear 25 = .ok (.invokevirtual 118, 3) := by decide +kernel
theorem dX11_tear_28 : decode cX11_tear 28 = .ok (.iload_n 1, 1) := by decide +kernel
theorem dX11_tear_29 : decode cX11_tear 29 = .ok (.ireturn, 1) := by decide +kernel
theorem dX11_seed_0 : decode cX11_seed 0 = .ok (.iload_n 1, 1) := by decide +kernel
theorem dX11_seed_1 : decode cX11_seed 1 = .ok (.ifCond .ge 6, 3) := by decide +kernel
theorem dX11_seed_4 : decode cX11_seed 4 = .ok (.ldc 89, 2) := by decide +kernel
theorem dX11_seed_6 : decode cX11_seed 6 = .ok (.ireturn, 1) := by decide +kernel
theorem dX11_seed_7 : decode cX11_seed 7 = .ok (.aload_n 0, 1) := by decide +kernel
theorem dX11_seed_8 : decode cX11_seed 8 = .ok (.getfield 82, 3) := by decide +kernel
theorem dX11_seed_11 : decode cX11_seed 11 = .ok (.istore_n 2, 1) := by decide +kernel
theorem dX11_seed_12 : decode cX11_seed 12 = .ok (.aload_n 0, 1) := by decide +kernel
theorem dX11_seed_13 : decode cX11_seed 13 = .ok (.iload_n 1, 1) := by decide +kernel
theorem dX11_seed_14 : decode cX11_seed 14 = .ok (.putfield 82, 3) := by decide +kernel
theorem dX11_seed_17 : decode cX11_seed 17 = .ok (.iload_n 2, 1) := by decide +kernel
theorem dX11_seed_18 : decode cX11_seed 18 = .ok (.ireturn, 1) := by decide +kernel
theorem dX11_keep_0 : decode cX11_keep 0 = .ok (.iload_n 1, 1) := by decide +kernel
theorem dX11_keep_1 : decode cX11_keep 1 = .ok (.iconst 0, 1) := by decide +kernel
theorem dX11_keep_2 : decode cX11_keep 2 = .ok (.iconst 1, 1) := by decide +kernel
theorem dX11_keep_3 : decode cX11_keep 3 = .ok (.invokestatic 85, 3) := by decide +kernel
theorem dX11_keep_6 : decode cX11_keep 6 = .ok (.ifCond .eq 6, 3) := by decide +kernel
theorem dX11_keep_9 : decode cX11_keep 9 = .ok (.ldc 172, 2) := by decide +kernel
theorem dX11_keep_11 : decode cX11_keep 11 = .ok (.ireturn, 1) := by decide +kernel
theorem dX11_keep_12 : decode cX11_keep 12 = .ok (.aload_n 0, 1) := by decide +kernel
theorem dX11_keep_13 : decode cX11_keep 13 = .ok (.iload_n 1, 1) := by decide +kernel
theorem dX11_keep_14 : decode cX11_keep 14 = .ok (.invokevirtual 329, 3) := by decide +kernel
theorem dX11_keep_17 : decode cX11_keep 17 = .ok (.aload_n 0, 1) := by decide +kernel
theorem dX11_keep_18 : decode cX11_keep 18 = .ok (.getfield 33, 3) := by decide +kernel
theorem dX11_keep_21 : decode cX11_keep 21 = .ok (.aload_n 0, 1) := by decide +kernel
theorem dX11_keep_22 : decode cX11_keep 22 = .ok (.getfield 19, 3) := by decide +kernel
theorem dX11_keep_25 : decode cX11_keep 25 = .ok (.aload_n 0, 1) := by decide +kernel
theorem dX11_keep_26 : decode cX11_keep 26 = .ok (.getfield 82, 3) := by decide +kernel
theorem dX11_keep_29 : decode cX11_keep 29 = .ok (.invokevirtual 333, 3) := by decide +kernel
theorem dX11_keep_32 : decode cX11_keep 32 = .ok (.aload_n 0, 1) := by decide +kernel
theorem dX11_keep_33 : decode cX11_keep 33 = .ok (.getfield 40, 3) := by decide +kernel
theorem dX11_keep_36 : decode cX11_keep 36 = .ok (.iconst 0, 1) := by decide +kernel
theorem dX11_keep_37 : decode cX11_keep 37 = .ok (.putfield 111, 3) := by decide +kernel
theorem dX11_keep_40 : decode cX11_keep 40 = .ok (.iconst 1, 1) := by decide +kernel
theorem dX11_keep_41 : decode cX11_keep 41 = .ok (.ireturn, 1) := by decide +kernel
theorem dX11_goBack_0 : decode cX11_goBack 0 = .ok (.iload_n 1, 1) := by decide +kernel
theorem dX11_goBack_1 : decode cX11_goBack 1 = .ok (.iconst 0, 1) := by decide +kernel
theorem dX11_goBack_2 : decode cX11_goBack 2 = .ok (.iconst 1, 1) := by decide +kernel
theorem dX11_goBack_3 : decode cX11_goBack 3 = .ok (.invokestatic 85, 3) := by decide +kernel
theorem dX11_goBack_6 : decode cX11_goBack 6 = .ok (.ifCond .eq 6, 3) := by decide +kernel
theorem dX11_goBack_9 : decode cX11_goBack 9 = .ok (.ldc 172, 2) := by decide +kernel
theorem dX11_goBack_11 : decode cX11_goBack 11 = .ok (.ireturn, 1) := by decide +kernel
theorem dX11_goBack_12 : decode cX11_goBack 12 = .ok (.aload_n 0, 1) := by decide +kernel
theorem dX11_goBack_13 : decode cX11_goBack 13 = .ok (.iload_n 1, 1) := by decide +kernel
theorem dX11_goBack_14 : decode cX11_goBack 14 = .ok (.invokevirtual 329, 3) := by decide +kernel
theorem dX11_goBack_17 : decode cX11_goBack 17 = .ok (.astore_n 2, 1) := by decide +kernel
theorem dX11_goBack_18 : decode cX11_goBack 18 = .ok (.aload_n 2, 1) := by decide +kernel
theorem dX11_goBack_19 : decode cX11_goBack 19 = .ok (.getfield 114, 3) := by decide +kernel
theorem dX11_goBack_22 : decode cX11_goBack 22 = .ok (.ifCond .ne 6, 3) := by decide +kernel
theorem dX11_goBack_25 : decode cX11_goBack 25 = .ok (.ldc 225, 2) := by decide +kernel
theorem dX11_goBack_27 : decode cX11_goBack 27 = .ok (.ireturn, 1) := by decide +kernel
theorem dX11_goBack_28 : decode cX11_goBack 28 = .ok (.aload_n 2, 1) := by decide +kernel
theorem dX11_goBack_29 : decode cX11_goBack 29 = .ok (.aload_n 0, 1) := by decide +kernel
theorem dX11_goBack_30 : decode cX11_goBack 30 = .ok (.getfield 33, 3) := by decide +kernel
theorem dX11_goBack_33 : decode cX11_goBack 33 = .ok (.aload_n 0, 1) := by decide +kernel
theorem dX11_goBack_34 : decode cX11_goBack 34 = .ok (.getfield 19, 3) := by decide +kernel
theorem dX11_goBack_37 : decode cX11_goBack 37 = .ok (.invokevirtual 337, 3) := by decide +kernel
theorem dX11_goBack_40 : decode cX11_goBack 40 = .ok (.aload_n 0, 1) := by decide +kernel
theorem dX11_goBack_41 : decode cX11_goBack 41 = .ok (.aload_n 2, 1) := by decide +kernel
theorem dX11_goBack_42 : decode cX11_goBack 42 = .ok (.getfield 341, 3) := by decide +kernel
theorem dX11_goBack_45 : decode cX11_goBack 45 = .ok (.putfield 82, 3) := by decide +kernel
theorem dX11_goBack_48 : decode cX11_goBack 48 = .ok (.aload_n 0, 1) := by decide +kernel
theorem dX11_goBack_49 : decode cX11_goBack 49 = .ok (.getfield 40, 3) := by decide +kernel
theorem dX11_goBack_52 : decode cX11_goBack 52 = .ok (.iconst 0, 1) := by decide +kernel
theorem dX11_goBack_53 : decode cX11_goBack 53 = .ok (.putfield 111, 3) := by decide +kernel
theorem dX11_goBack_56 : decode cX11_goBack 56 = .ok (.iconst 1, 1) := by decide +kernel
theorem dX11_goBack_57 : decode cX11_goBack 57 = .ok (.ireturn, 1) := by decide +kernel
theorem dX11_letPass_0 : decode cX11_letPass 0 = .ok (.iload_n 1, 1) := by decide +kernel
theorem dX11_letPass_1 : decode cX11_letPass 1 = .ok (.iconst 1, 1) := by decide +kernel
theorem dX11_letPass_2 : decode cX11_letPass 2 = .ok (.sipush 999, 3) := by decide +kernel
theorem dX11_letPass_5 : decode cX11_letPass 5 = .ok (.invokestatic 85, 3) := by decide +kernel
theorem dX11_letPass_8 : decode cX11_letPass 8 = .ok (.ifCond .eq 6, 3) := by decide +kernel
theorem dX11_letPass_11 : decode cX11_letPass 11 = .ok (.ldc 89, 2) := by decide +kernel
theorem dX11_letPass_13 : decode cX11_letPass 13 = .ok (.ireturn, 1) := by decide +kernel
theorem dX11_letPass_14 : decode cX11_letPass 14 = .ok (.aload_n 0, 1) := by decide +kernel
theorem dX11_letPass_15 : decode cX11_letPass 15 = .ok (.getfield 33, 3) := by decide +kernel
theorem dX11_letPass_18 : decode cX11_letPass 18 = .ok (.getfield 138, 3) := by decide +kernel
theorem dX11_letPass_21 : decode cX11_letPass 21 = .ok (.iload_n 1, 1) := by decide +kernel
theorem dX11_letPass_22 : decode cX11_letPass 22 = .ok (.iadd, 1) := by decide +kernel
theorem dX11_letPass_23 : decode cX11_letPass 23 = .ok (.ldc 226, 2) := by decide +kernel
theorem dX11_letPass_25 : decode cX11_letPass 25 = .ok (.if_icmp .le 6, 3) := by decide +kernel
theorem dX11_letPass_28 : decode cX11_letPass 28 = .ok (.ldc 93, 2) := by decide +kernel
theorem dX11_letPass_30 : decode cX11_letPass 30 = .ok (.ireturn, 1) := by decide +kernel
theorem dX11_letPass_31 : decode cX11_letPass 31 = .ok (.iconst 0, 1) := by decide +kernel
theorem dX11_letPass_32 : decode cX11_letPass 32 = .ok (.iload_n 1, 1) := by decide +kernel
theorem dX11_letPass_33 : decode cX11_letPass 33 = .ok (.bipush 40, 2) := by decide +kernel
theorem dX11_letPass_35 : decode cX11_letPass 35 = .ok (.isub, 1) := by decide +kernel
theorem dX11_letPass_36 : decode cX11_letPass 36 = .ok (.invokestatic 344, 3) := by decide +kernel
theorem dX11_letPass_39 : decode cX11_letPass 39 = .ok (.istore_n 3, 1) := by decide +kernel
theorem dX11_letPass_40 : decode cX11_letPass 40 = .ok (.aload_n 0, 1) := by decide +kernel
theorem dX11_letPass_41 : decode cX11_letPass 41 = .ok (.getfield 33, 3) := by decide +kernel
theorem dX11_letPass_44 : decode cX11_letPass 44 = .ok (.iload_n 3, 1) := by decide +kernel
theorem dX11_letPass_45 : decode cX11_letPass 45 = .ok (.iload_n 2, 1) := by decide +kernel
theorem dX11_letPass_46 : decode cX11_letPass 46 = .ok (.invokevirtual 349, 3) := by decide +kernel
theorem dX11_letPass_49 : decode cX11_letPass 49 = .ok (.iload_n 3, 1) := by decide +kernel
theorem dX11_letPass_50 : decode cX11_letPass 50 = .ok (.istore 4, 2) := by decide +kernel
theorem dX11_letPass_52 : decode cX11_letPass 52 = .ok (.iload 4, 2) := by decide +kernel
theorem dX11_letPass_54 : decode cX11_letPass 54 = .ok (.iload_n 1, 1) := by decide +kernel
theorem dX11_letPass_55 : decode cX11_letPass 55 = .ok (.if_icmp .ge 29, 3) := by decide +kernel
theorem dX11_letPass_58 : decode cX11_letPass 58 = .ok (.aload_n 0, 1) := by decide +kernel
theorem dX11_letPass_59 : decode cX11_letPass 59 = .ok (.getfield 40, 3) := by decide +kernel
theorem dX11_letPass_62 : decode cX11_letPass 62 = .ok (.aload_n 0, 1) := by decide +kernel
theorem dX11_letPass_63 : decode cX11_letPass 63 = .ok (.getfield 33, 3) := by decide +kernel
theorem dX11_letPass_66 : decode cX11_letPass 66 = .ok (.invokevirtual 227, 3) := by decide +kernel
theorem dX11_letPass_69 : decode cX11_letPass 69 = .ok (.aload_n 0, 1) := by decide +kernel
theorem dX11_letPass_70 : decode cX11_letPass 70 = .ok (.getfield 33, 3) := by decide +kernel
theorem dX11_letPass_73 : decode cX11_letPass 73 = .ok (.iconst 1, 1) := by decide +kernel
theorem dX11_letPass_74 : decode cX11_letPass 74 = .ok (.iload_n 2, 1) := by decide +kernel
theorem dX11_letPass_75 : decode cX11_letPass 75 = .ok (.invokevirtual 349, 3) := by decide +kernel
theorem dX11_letPass_78 : decode cX11_letPass 78 = .ok (.iinc 4 1, 3) := by decide +kernel
theorem dX11_letPass_81 : decode cX11_letPass 81 = .ok (.goto (-29), 3) := by decide +kernel
theorem dX11_letPass_84 : decode cX11_letPass 84 = .ok (.aload_n 0, 1) := by decide +kernel
theorem dX11_letPass_85 : decode cX11_letPass 85 = .ok (.getfield 33, 3) := by decide +kernel
theorem dX11_letPass_88 : decode cX11_letPass 88 = .ok (.getfield 141, 3) := by decide +kernel
theorem dX11_letPass_91 : decode cX11_letPass 91 = .ok (.ireturn, 1) := by decide +kernel
theorem dX11_draw_0 : decode cX11_draw 0 = .ok (.iload_n 1, 1) := by decide +kernel
theorem dX11_draw_1 : decode cX11_draw 1 = .ok (.iconst 1, 1) := by decide +kernel
theorem dX11_draw_2 : decode cX11_draw 2 = .ok (.if_icmp .ge 5, 3) := by decide +kernel
theorem dX11_draw_5 : decode cX11_draw 5 = .ok (.iconst 0, 1) := by decide +kernel
theorem dX11_draw_6 : decode cX11_draw 6 = .ok (.ireturn, 1) := by decide +kernel
theorem dX11_draw_7 : decode cX11_draw 7 = .ok (.aload_n 0, 1) := by decide +kernel
theorem dX11_draw_8 : decode cX11_draw 8 = .ok (.aload_n 0, 1) := by decide +kernel
theorem dX11_draw_9 : decode cX11_draw 9 = .ok (.getfield 82, 3) := by decide +kernel
theorem dX11_draw_12 : decode cX11_draw 12 = .ok (.i2l, 1) := by decide +kernel
theorem dX11_draw_13 : decode cX11_draw 13 = .ok (.ldc2_w 353, 3) := by decide +kernel
theorem dX11_draw_16 : decode cX11_draw 16 = .ok (.lmul, 1) := by decide +kernel
theorem dX11_draw_17 : decode cX11_draw 17 = .ok (.ldc2_w 355, 3) := by decide +kernel
theorem dX11_draw_20 : decode cX11_draw 20 = .ok (.ladd, 1) := by decide +kernel
theorem dX11_draw_21 : decode cX11_draw 21 = .ok (.ldc2_w 357, 3) := by decide +kernel
theorem dX11_draw_24 : decode cX11_draw 24 = .ok (.land, 1) := by decide +kernel
theorem dX11_draw_25 : decode cX11_draw 25 = .ok (.l2i, 1) := by decide +kernel
theorem dX11_draw_26 : decode cX11_draw 26 = .ok (.putfield 82, 3) := by decide +kernel
theorem dX11_draw_29 : decode cX11_draw 29 = .ok (.aload_n 0, 1) := by decide +kernel
theorem dX11_draw_30 : decode cX11_draw 30 = .ok (.getfield 82, 3) := by decide +kernel
theorem dX11_draw_33 : decode cX11_draw 33 = .ok (.ldc_w 359, 3) := by decide +kernel
theorem dX11_draw_36 : decode cX11_draw 36 = .ok (.idiv, 1) := by decide +kernel
theorem dX11_draw_37 : decode cX11_draw 37 = .ok (.iload_n 1, 1) := by decide +kernel
theorem dX11_draw_38 : decode cX11_draw 38 = .ok (.irem, 1) := by decide +kernel
theorem dX11_draw_39 : decode cX11_draw 39 = .ok (.ireturn, 1) := by decide +kernel
theorem dX11_forgetNotes_0 : decode cX11_forgetNotes 0 = .ok (.aload_n 0, 1) := by decide +kernel
theorem dX11_forgetNotes_1 : decode cX11_forgetNotes 1 = .ok (.getfield 64, 3) := by decide +kernel
theorem dX11_forgetNotes_4 : decode cX11_forgetNotes 4 = .ok (.iconst 0, 1) := by decide +kernel
theorem dX11_forgetNotes_5 : decode cX11_forgetNotes 5 = .ok (.putfield 153, 3) := by decide +kernel
theorem dX11_forgetNotes_8 : decode cX11_forgetNotes 8 = .ok (.aload_n 0, 1) := by decide +kernel
theorem dX11_forgetNotes_9 : decode cX11_forgetNotes 9 = .ok (.getfield 71, 3) := by decide +kernel
theorem dX11_forgetNotes_12 : decode cX11_forgetNotes 12 = .ok (.iconst 0, 1) := by decide +kernel
theorem dX11_forgetNotes_13 : decode cX11_forgetNotes 13 = .ok (.putfield 156, 3) := by decide +kernel
theorem dX11_forgetNotes_16 : decode cX11_forgetNotes 16 = .ok (.aload_n 0, 1) := by decide +kernel
theorem dX11_forgetNotes_17 : decode cX11_forgetNotes 17 = .ok (.getfield 78, 3) := by decide +kernel
theorem dX11_forgetNotes_20 : decode cX11_forgetNotes 20 = .ok (.iconst 0, 1) := by decide +kernel
theorem dX11_forgetNotes_21 : decode cX11_forgetNotes 21 = .ok (.putfield 159, 3) := by decide +kernel
theorem dX11_forgetNotes_24 : decode cX11_forgetNotes 24 = .ok (.return_, 1) := by decide +kernel
theorem dX11_imageOf_0 : decode cX11_imageOf 0 = .ok (.iload_n 1, 1) := by decide +kernel
theorem dX11_imageOf_1 : decode cX11_imageOf 1 = .ok (.ifCond .ne 10, 3) := by decide +kernel
theorem dX11_imageOf_4 : decode cX11_imageOf 4 = .ok (.aload_n 0, 1) := by decide +kernel
theorem dX11_imageOf_5 : decode cX11_imageOf 5 = .ok (.getfield 47, 3) := by decide +kernel
theorem dX11_imageOf_8 : decode cX11_imageOf 8 = .ok (.goto 7, 3) := by decide +kernel
theorem dX11_imageOf_11 : decode cX11_imageOf 11 = .ok (.aload_n 0, 1) := by decide +kernel
theorem dX11_imageOf_12 : decode cX11_imageOf 12 = .ok (.getfield 51, 3) := by decide +kernel
theorem dX11_imageOf_15 : decode cX11_imageOf 15 = .ok (.areturn, 1) := by decide +kernel
theorem dX11_isOutside_0 : decode cX11_isOutside 0 = .ok (.iload_n 0, 1) := by decide +kernel
theorem dX11_isOutside_1 : decode cX11_isOutside 1 = .ok (.iload_n 1, 1) := by decide +kernel
theorem dX11_isOutside_2 : decode cX11_isOutside 2 = .ok (.if_icmp .lt 8, 3) := by decide +kernel
theorem dX11_isOutside_5 : decode cX11_isOutside 5 = .ok (.iload_n 0, 1) := by decide +kernel
theorem dX11_isOutside_6 : decode cX11_isOutside 6 = .ok (.iload_n 2, 1) := by decide +kernel
theorem dX11_isOutside_7 : decode cX11_isOutside 7 = .ok (.if_icmp .le 7, 3) := by decide +kernel
theorem dX11_isOutside_10 : decode cX11_isOutside 10 = .ok (.iconst 1, 1) := by decide +kernel
theorem dX11_isOutside_11 : decode cX11_isOutside 11 = .ok (.goto 4, 3) := by decide +kernel
theorem dX11_isOutside_14 : decode cX11_isOutside 14 = .ok (.iconst 0, 1) := by decide +kernel
theorem dX11_isOutside_15 : decode cX11_isOutside 15 = .ok (.ireturn, 1) := by decide +kernel
theorem dX11_leastCommon_0 : decode cX11_leastCommon 0 = .ok (.iload_n 1, 1) := by decide +kernel
theorem dX11_leastCommon_1 : decode cX11_leastCommon 1 = .ok (.iconst 1, 1) := by decide +kernel
theorem dX11_leastCommon_2 : decode cX11_leastCommon 2 = .ok (.if_icmp .ge 5, 3) := by decide +kernel
theorem dX11_leastCommon_5 : decode cX11_leastCommon 5 = .ok (.iload_n 0, 1) := by decide +kernel
theorem dX11_leastCommon_6 : decode cX11_leastCommon 6 = .ok (.ireturn, 1) := by decide +kernel
theorem dX11_leastCommon_7 : decode cX11_leastCommon 7 = .ok (.iconst 1, 1) := by decide +kernel
theorem dX11_leastCommon_8 : decode cX11_leastCommon 8 = .ok (.istore_n 2, 1) := by decide +kernel
theorem dX11_leastCommon_9 : decode cX11_leastCommon 9 = .ok (.iload_n 2, 1) := by decide +kernel
theorem dX11_leastCommon_10 : decode cX11_leastCommon 10 = .ok (.iload_n 1, 1) := by decide +kernel
theorem dX11_leastCommon_11 : decode cX11_leastCommon 11 = .ok (.if_icmp .ge 21, 3) := by decide +kernel
theorem dX11_leastCommon_14 : decode cX11_leastCommon 14 = .ok (.iload_n 0, 1) := by decide +kernel
theorem dX11_leastCommon_15 : decode cX11_leastCommon 15 = .ok (.iload_n 2, 1) := by decide +kernel
theorem dX11_leastCommon_16 : decode cX11_leastCommon 16 = .ok (.imul, 1) := by decide +kernel
theorem dX11_leastCommon_17 : decode cX11_leastCommon 17 = .ok (.iload_n 1, 1) := by decide +kernel
theorem dX11_leastCommon_18 : decode cX11_leastCommon 18 = .ok (.irem, 1) := by decide +kernel
theorem dX11_leastCommon_19 : decode cX11_leastCommon 19 = .ok (.ifCond .ne 7, 3) := by decide +kernel
theorem dX11_leastCommon_22 : decode cX11_leastCommon 22 = .ok (.iload_n 0, 1) := by decide +kernel
theorem dX11_leastCommon_23 : decode cX11_leastCommon 23 = .ok (.iload_n 2, 1) := by decide +kernel
theorem dX11_leastCommon_24 : decode cX11_leastCommon 24 = .ok (.imul, 1) := by decide +kernel
theorem dX11_leastCommon_25 : decode cX11_leastCommon 25 = .ok (.ireturn, 1) := by decide +kernel
theorem dX11_leastCommon_26 : decode cX11_leastCommon 26 = .ok (.iinc 2 1, 3) := by decide +kernel
theorem dX11_leastCommon_29 : decode cX11_leastCommon 29 = .ok (.goto (-20), 3) := by decide +kernel
theorem dX11_leastCommon_32 : decode cX11_leastCommon 32 = .ok (.iload_n 0, 1) := by decide +kernel
theorem dX11_leastCommon_33 : decode cX11_leastCommon 33 = .ok (.iload_n 1, 1) := by decide +kernel
theorem dX11_leastCommon_34 : decode cX11_leastCommon 34 = .ok (.imul, 1) := by decide +kernel
theorem dX11_leastCommon_35 : decode cX11_leastCommon 35 = .ok (.ireturn, 1) := by decide +kernel
theorem dX11_swell_0 : decode cX11_swell 0 = .ok (.iload_n 1, 1) := by decide +kernel
theorem dX11_swell_1 : decode cX11_swell 1 = .ok (.iconst 1, 1) := by decide +kernel
theorem dX11_swell_2 : decode cX11_swell 2 = .ok (.if_icmp .ge 5, 3) := by decide +kernel
theorem dX11_swell_5 : decode cX11_swell 5 = .ok (.iconst 0, 1) := by decide +kernel
theorem dX11_swell_6 : decode cX11_swell 6 = .ok (.ireturn, 1) := by decide +kernel
theorem dX11_swell_7 : decode cX11_swell 7 = .ok (.iload_n 0, 1) := by decide +kernel
theorem dX11_swell_8 : decode cX11_swell 8 = .ok (.iload_n 1, 1) := by decide +kernel
theorem dX11_swell_9 : decode cX11_swell 9 = .ok (.invokestatic 360, 3) := by decide +kernel
theorem dX11_swell_12 : decode cX11_swell 12 = .ok (.istore_n 2, 1) := by decide +kernel
theorem dX11_swell_13 : decode cX11_swell 13 = .ok (.iload_n 2, 1) := by decide +kernel
theorem dX11_swell_14 : decode cX11_swell 14 = .ok (.iload_n 1, 1) := by decide +kernel
theorem dX11_swell_15 : decode cX11_swell 15 = .ok (.iload_n 2, 1) := by decide +kernel
theorem dX11_swell_16 : decode cX11_swell 16 = .ok (.isub, 1) := by decide +kernel
theorem dX11_swell_17 : decode cX11_swell 17 = .ok (.invokestatic 363, 3) := by decide +kernel
theorem dX11_swell_20 : decode cX11_swell 20 = .ok (.ireturn, 1) := by decide +kernel
theorem dX11_besideOf_0 : decode cX11_besideOf 0 = .ok (.iload_n 1, 1) := by decide +kernel
theorem dX11_besideOf_1 : decode cX11_besideOf 1 = .ok (.iconst 1, 1) := by decide +kernel
theorem dX11_besideOf_2 : decode cX11_besideOf 2 = .ok (.if_icmp .ne 7, 3) := by decide +kernel
theorem dX11_besideOf_5 : decode cX11_besideOf 5 = .ok (.iload_n 0, 1) := by decide +kernel
theorem dX11_besideOf_6 : decode cX11_besideOf 6 = .ok (.iconst 1, 1) := by decide +kernel
theorem dX11_besideOf_7 : decode cX11_besideOf 7 = .ok (.isub, 1) := by decide +kernel
theorem dX11_besideOf_8 : decode cX11_besideOf 8 = .ok (.ireturn, 1) := by decide +kernel
theorem dX11_besideOf_9 : decode cX11_besideOf 9 = .ok (.iload_n 1, 1) := by decide +kernel
theorem dX11_besideOf_10 : decode cX11_besideOf 10 = .ok (.iconst 2, 1) := by decide +kernel
theorem dX11_besideOf_11 : decode cX11_besideOf 11 = .ok (.if_icmp .ne 9, 3) := by decide +kernel
theorem dX11_besideOf_14 : decode cX11_besideOf 14 = .ok (.iload_n 0, 1) := by decide +kernel
theorem dX11_besideOf_15 : decode cX11_besideOf 15 = .ok (.iconst 1, 1) := by decide +kernel
theorem dX11_besideOf_16 : decode cX11_besideOf 16 = .ok (.iadd, 1) := by decide +kernel
theorem dX11_besideOf_17 : decode cX11_besideOf 17 = .ok (.goto 4, 3) := by decide +kernel
theorem dX11_besideOf_20 : decode cX11_besideOf 20 = .ok (.iload_n 0, 1) := by decide +kernel
theorem dX11_besideOf_21 : decode cX11_besideOf 21 = .ok (.ireturn, 1) := by decide +kernel
theorem dX12_init_0 : decode cX12_init 0 = .ok (.aload_n 0, 1) := by decide +kernel
theorem dX12_init_1 : decode cX12_init 1 = .ok (.invokespecial 1, 3) := by decide +kernel
theorem dX12_init_4 : decode cX12_init 4 = .ok (.aload_n 0, 1) := by decide +kernel
theorem dX12_init_5 : decode cX12_init 5 = .ok (.bipush 30, 2) := by decide +kernel
theorem dX12_init_7 : decode cX12_init 7 = .ok (.newarray .int, 2) := by decide +kernel
theorem dX12_init_9 : decode cX12_init 9 = .ok (.putfield 7, 3) := by decide +kernel
theorem dX12_init_12 : decode cX12_init 12 = .ok (.aload_n 0, 1) := by decide +kernel
theorem dX12_init_13 : decode cX12_init 13 = .ok (.iconst 2, 1) := by decide +kernel
theorem dX12_init_14 : decode cX12_init 14 = .ok (.newarray .boolean, 2) := by decide +kernel
theorem dX12_init_16 : decode cX12_init 16 = .ok (.putfield 13, 3) := by decide +kernel
theorem dX12_init_19 : decode cX12_init 19 = .ok (.aload_n 0, 1) := by decide +kernel
theorem dX12_init_20 : decode cX12_init 20 = .ok (.bipush 64, 2) := by decide +kernel
theorem dX12_init_22 : decode cX12_init 22 = .ok (.newarray .int, 2) := by decide +kernel
theorem dX12_init_24 : decode cX12_init 24 = .ok (.putfield 17, 3) := by decide +kernel
theorem dX12_init_27 : decode cX12_init 27 = .ok (.aload_n 0, 1) := by decide +kernel
theorem dX12_init_28 : decode cX12_init 28 = .ok (.bipush 16, 2) := by decide +kernel
theorem dX12_init_30 : decode cX12_init 30 = .ok (.newarray .int, 2) := by decide +kernel
theorem dX12_init_32 : decode cX12_init 32 = .ok (.putfield 20, 3) := by decide +kernel
theorem dX12_init_35 : decode cX12_init 35 = .ok (.aload_n 0, 1) := by decide +kernel
theorem dX12_init_36 : decode cX12_init 36 = .ok (.bipush 32, 2) := by decide +kernel
theorem dX12_init_38 : decode cX12_init 38 = .ok (.newarray .int, 2) := by decide +kernel
theorem dX12_init_40 : decode cX12_init 40 = .ok (.putfield 23, 3) := by decide +kernel
theorem dX12_init_43 : decode cX12_init 43 = .ok (.aload_n 0, 1) := by decide +kernel
theorem dX12_init_44 : decode cX12_init 44 = .ok (.sipush 250, 3) := by decide +kernel
theorem dX12_init_47 : decode cX12_init 47 = .ok (.newarray .int, 2) := by decide +kernel
theorem dX12_init_49 : decode cX12_init 49 = .ok (.putfield 26, 3) := by decide +kernel
theorem dX12_init_52 : decode cX12_init 52 = .ok (.aload_n 0, 1) := by decide +kernel
theorem dX12_init_53 : decode cX12_init 53 = .ok (.iconst (-1), 1) := by decide +kernel
theorem dX12_init_54 : decode cX12_init 54 = .ok (.putfield 29, 3) := by decide +kernel
theorem dX12_init_57 : decode cX12_init 57 = .ok (.aload_n 0, 1) := by decide +kernel
theorem dX12_init_58 : decode cX12_init 58 = .ok (.iconst 1, 1) := by decide +kernel
theorem dX12_init_59 : decode cX12_init 59 = .ok (.putfield 33, 3) := by decide +kernel
theorem dX12_init_62 : decode cX12_init 62 = .ok (.aload_n 0, 1) := by decide +kernel
theorem dX12_init_63 : decode cX12_init 63 = .ok (.sipush 160, 3) := by decide +kernel
theorem dX12_init_66 : decode cX12_init 66 = .ok (.newarray .int, 2) := by decide +kernel
theorem dX12_init_68 : decode cX12_init 68 = .ok (.putfield 36, 3) := by decide +kernel
theorem dX12_init_71 : decode cX12_init 71 = .ok (.aload_n 0, 1) := by decide +kernel
theorem dX12_init_72 : decode cX12_init 72 = .ok (.sipush 248, 3) := by decide +kernel
theorem dX12_init_75 : decode cX12_init 75 = .ok (.newarray .int, 2) := by decide +kernel
theorem dX12_init_77 : decode cX12_init 77 = .ok (.putfield 39, 3) := by decide +kernel
theorem dX12_init_80 : decode cX12_init 80 = .ok (.aload_n 0, 1) := by decide +kernel
theorem dX12_init_81 : decode cX12_init 81 = .ok (.bipush 12, 2) := by decide +kernel
theorem dX12_init_83 : decode cX12_init 83 = .ok (.newarray .int, 2) := by decide +kernel
theorem dX12_init_85 : decode cX12_init 85 = .ok (.putfield 42, 3) := by decide +kernel
theorem dX12_init_88 : decode cX12_init 88 = .ok (.aload_n 0, 1) := by decide +kernel
theorem dX12_init_89 : decode cX12_init 89 = .ok (.bipush 12, 2) := by decide +kernel
theorem dX12_init_91 : decode cX12_init 91 = .ok (.newarray .int, 2) := by decide +kernel
theorem dX12_init_93 : decode cX12_init 93 = .ok (.putfield 45, 3) := by decide +kernel
theorem dX12_init_96 : decode cX12_init 96 = .ok (.aload_n 0, 1) := by decide +kernel
theorem dX12_init_97 : decode cX12_init 97 = .ok (.bipush 40, 2) := by decide +kernel
theorem dX12_init_99 : decode cX12_init 99 = .ok (.newarray .int, 2) := by decide +kernel
theorem dX12_init_101 : decode cX12_init 101 = .ok (.putfield 48, 3) := by decide +kernel
theorem dX12_init_104 : decode cX12_init 104 = .ok (.aload_n 0, 1) := by decide +kernel
theorem dX12_init_105 : decode cX12_init 105 = .ok (.bipush 12, 2) := by decide +kernel
theorem dX12_init_107 : decode cX12_init 107 = .ok (.newarray .int, 2) := by decide +kernel
theorem dX12_init_109 : decode cX12_init 109 = .ok (.putfield 51, 3) := by decide +kernel
theorem dX12_init_112 : decode cX12_init 112 = .ok (.aload_n 0, 1) := by decide +kernel
theorem dX12_init_113 : decode cX12_init 113 = .ok (.bipush 12, 2) := by decide +kernel
theorem dX12_init_115 : decode cX12_init 115 = .ok (.newarray .int, 2) := by decide +kernel
theorem dX12_init_117 : decode cX12_init 117 = .ok (.putfield 54, 3) := by decide +kernel
theorem dX12_init_120 : decode cX12_init 120 = .ok (.aload_n 0, 1) := by decide +kernel
theorem dX12_init_121 : decode cX12_init 121 = .ok (.bipush 12, 2) := by decide +kernel
theorem dX12_init_123 : decode cX12_init 123 = .ok (.newarray .int, 2) := by decide +kernel
theorem dX12_init_125 : decode cX12_init 125 = .ok (.putfield 57, 3) := by decide +kernel
theorem dX12_init_128 : decode cX12_init 128 = .ok (.aload_n 0, 1) := by decide +kernel
theorem dX12_init_129 : decode cX12_init 129 = .ok (.bipush 22, 2) := by decide +kernel
theorem dX12_init_131 : decode cX12_init 131 = .ok (.newarray .int, 2) := by decide +kernel
theorem dX12_init_133 : decode cX12_init 133 = .ok (.putfield 60, 3) := by decide +kernel
theorem dX12_init_136 : decode cX12_init 136 = .ok (.aload_n 0, 1) := by decide +kernel
theorem dX12_init_137 : decode cX12_init 137 = .ok (.bipush 30, 2) := by decide +kernel
theorem dX12_init_139 : decode cX12_init 139 = .ok (.newarray .int, 2) := by decide +kernel
theorem dX12_init_141 : decode cX12_init 141 = .ok (.putfield 63, 3) := by decide +kernel
theorem dX12_init_144 : decode cX12_init 144 = .ok (.return_, 1) := by decide +kernel
theorem dX12_in_0 : decode cX12_in 0 = .ok (.lload_n 0, 1) := by decide +kernel
theorem dX12_in_1 : decode cX12_in 1 = .ok (.lload_n 2, 1) := by decide +kernel
theorem dX12_in_2 : decode cX12_in 2 = .ok (.lcmp, 1) := by decide +kernel
theorem dX12_in_3 : decode cX12_in 3 = .ok (.ifCond .lt 14, 3) := by decide +kernel
theorem dX12_in_6 : decode cX12_in 6 = .ok (.lload_n 0, 1) := by decide +kernel
theorem dX12_in_7 : decode cX12_in 7 = .ok (.lload 4, 2) := by decide +kernel
theorem dX12_in_9 : decode cX12_in 9 = .ok (.lcmp, 1) := by decide +kernel
theorem dX12_in_10 : decode cX12_in 10 = .ok (.ifCond .gt 7, 3) := by decide +kernel
theorem dX12_in_13 : decode cX12_in 13 = .ok (.iconst 1, 1) := by decide +kernel
theorem dX12_in_14 : decode cX12_in 14 = .ok (.goto 4, 3) := by decide +kernel
theorem dX12_in_17 : decode cX12_in 17 = .ok (.iconst 0, 1) := by decide +kernel
theorem dX12_in_18 : decode cX12_in 18 = .ok (.ireturn, 1) := by decide +kernel
theorem dX12_one_0 : decode cX12_one 0 = .ok (.iload_n 0, 1) := by decide +kernel
theorem dX12_one_1 : decode cX12_one 1 = .ok (.ifCond .eq 7, 3) := by decide +kernel
theorem dX12_one_4 : decode cX12_one 4 = .ok (.iconst 1, 1) := by decide +kernel
theorem dX12_one_5 : decode cX12_one 5 = .ok (.goto 4, 3) := by decide +kernel
theorem dX12_one_8 : decode cX12_one 8 = .ok (.iconst 0, 1) := by decide +kernel
theorem dX12_one_9 : decode cX12_one 9 = .ok (.ireturn, 1) := by decide +kernel
theorem dX12_has_0 : decode cX12_has 0 = .ok (.iload_n 0, 1) := by decide +kernel
theorem dX12_has_1 : decode cX12_has 1 = .ok (.iload_n 1, 1) := by decide +kernel
theorem dX12_has_2 : decode cX12_has 2 = .ok (.ishr, 1) := by decide +kernel
theorem dX12_has_3 : decode cX12_has 3 = .ok (.iconst 1, 1) := by decide +kernel
theorem dX12_has_4 : decode cX12_has 4 = .ok (.iand, 1) := by decide +kernel
theorem dX12_has_5 : decode cX12_has 5 = .ok (.iconst 1, 1) := by decide +kernel
theorem dX12_has_6 : decode cX12_has 6 = .ok (.if_icmp .ne 7, 3) := by decide +kernel
theorem dX12_has_9 : decode cX12_has 9 = .ok (.iconst 1, 1) := by decide +kernel
theorem dX12_has_10 : decode cX12_has 10 = .ok (.goto 4, 3) := by decide +kernel
theorem dX12_has_13 : decode cX12_has 13 = .ok (.iconst 0, 1) := by decide +kernel
theorem dX12_has_14 : decode cX12_has 14 = .ok (.ireturn, 1) := by decide +kernel
theorem dX12_ones_0 : decode cX12_ones 0 = .ok (.iconst 0, 1) := by decide +kernel
theorem dX12_ones_1 : decode cX12_ones 1 = .ok (.istore_n 1, 1) := by decide +kernel
theorem dX12_ones_2 : decode cX12_ones 2 = .ok (.iconst 0, 1) := by decide +kernel
theorem dX12_ones_3 : decode cX12_ones 3 = .ok (.istore_n 2, 1) := by decide +kernel
theorem dX12_ones_4 : decode cX12_ones 4 = .ok (.iload_n 2, 1) := by decide +kernel
theorem dX12_ones_5 : decode cX12_ones 5 = .ok (.bipush 8, 2) := by decide +kernel
theorem dX12_ones_7 : decode cX12_ones 7 = .ok (.if_icmp .ge 17, 3) := by decide +kernel
theorem dX12_ones_10 : decode cX12_ones 10 = .ok (.iload_n 1, 1) := by decide +kernel
theorem dX12_ones_11 : decode cX12_ones 11 = .ok (.iload_n 0, 1) := by decide +kernel
theorem dX12_ones_12 : decode cX12_ones 12 = .ok (.iload_n 2, 1) := by decide +kernel
theorem dX12_ones_13 : decode cX12_ones 13 = .ok (.ishr, 1) := by decide +kernel
theorem dX12_ones_14 : decode cX12_ones 14 = .ok (.iconst 1, 1) := by decide +kernel
theorem dX12_ones_15 : decode cX12_ones 15 = .ok (.iand, 1) := by decide +kernel
theorem dX12_ones_16 : decode cX12_ones 16 = .ok (.iadd, 1) := by decide +kernel
theorem dX12_ones_17 : decode cX12_ones 17 = .ok (.istore_n 1, 1) := by decide +kernel
theorem dX12_ones_18 : decode cX12_ones 18 = .ok (.iinc 2 1, 3) := by decide +kernel
theorem dX12_ones_21 : decode cX12_ones 21 = .ok (.goto (-17), 3) := by decide +kernel
theorem dX12_ones_24 : decode cX12_ones 24 = .ok (.iload_n 1, 1) := by decide +kernel
theorem dX12_ones_25 : decode cX12_ones 25 = .ok (.ireturn, 1) := by decide +kernel
theorem dX12_common_0 : decode cX12_common 0 = .ok (.iload_n 0, 1) := by decide +kernel
theorem dX12_common_1 : decode cX12_common 1 = .ok (.istore_n 2, 1) := by decide +kernel
theorem dX12_common_2 : decode cX12_common 2 = .ok (.iload_n 1, 1) := by decide +kernel
theorem dX12_common_3 : decode cX12_common 3 = .ok (.istore_n 3, 1) := by decide +kernel
theorem dX12_common_4 : decode cX12_common 4 = .ok (.iload_n 3, 1) := by decide +kernel
theorem dX12_common_5 : decode cX12_common 5 = .ok (.ifCond .le 16, 3) := by decide +kernel
theorem dX12_common_8 : decode cX12_common 8 = .ok (.iload_n 2, 1) := by decide +kernel
theorem dX12_common_9 : decode cX12_common 9 = .ok (.iload_n 3, 1) := by decide +kernel
theorem dX12_common_10 : decode cX12_common 10 = .ok (.irem, 1) := by decide +kernel
theorem dX12_common_11 : decode cX12_common 11 = .ok (.istore 4, 2) := by decide +kernel
theorem dX12_common_13 : decode cX12_common 13 = .ok (.iload_n 3, 1) := by decide +kernel
theorem dX12_common_14 : decode cX12_common 14 = .ok (.istore_n 2, 1) := by decide +kernel
theorem dX12_common_15 : decode cX12_common 15 = .ok (.iload 4, 2) := by decide +kernel
theorem dX12_common_17 : decode cX12_common 17 = .ok (.istore_n 3, 1) := by decide +kernel
theorem dX12_common_18 : decode cX12_common 18 = .ok (.goto (-14), 3) := by decide +kernel
theorem dX12_common_21 : decode cX12_common 21 = .ok (.iload_n 2, 1) := by decide +kernel
theorem dX12_common_22 : decode cX12_common 22 = .ok (.ireturn, 1) := by decide +kernel
theorem dX12_feed_0 : decode cX12_feed 0 = .ok (.iload_n 1, 1) := by decide +kernel
theorem dX12_feed_1 : decode cX12_feed 1 = .ok (.i2l, 1) := by decide +kernel
theorem dX12_feed_2 : decode cX12_feed 2 = .ok (.lconst 0, 1) := by decide +kernel
theorem dX12_feed_3 : decode cX12_feed 3 = .ok (.ldc2_w 66, 3) := by decide +kernel
theorem dX12_feed_6 : decode cX12_feed 6 = .ok (.invokestatic 68, 3) := by decide +kernel
theorem dX12_feed_9 : decode cX12_feed 9 = .ok (.ifCond .ne 6, 3) := by decide +kernel
theorem dX12_feed_12 : decode cX12_feed 12 = .ok (.ldc 72, 2) := by decide +kernel
theorem dX12_feed_14 : decode cX12_feed 14 = .ok (.ireturn, 1) := by decide +kernel
theorem dX12_feed_15 : decode cX12_feed 15 = .ok (.aload_n 0, 1) := by decide +kernel
theorem dX12_feed_16 : decode cX12_feed 16 = .ok (.getfield 73, 3) := by decide +kernel
theorem dX12_feed_19 : decode cX12_feed 19 = .ok (.sipush 250, 3) := by decide +kernel
theorem dX12_feed_22 : decode cX12_feed 22 = .ok (.if_icmp .ne 6, 3) := by decide +kernel
theorem dX12_feed_25 : decode cX12_feed 25 = .ok (.ldc 76, 2) := by decide +kernel
theorem dX12_feed_27 : decode cX12_feed 27 = .ok (.ireturn, 1) := by decide +kernel
theorem dX12_feed_28 : decode cX12_feed 28 = .ok (.aload_n 0, 1) := by decide +kernel
theorem dX12_feed_29 : decode cX12_feed 29 = .ok (.getfield 26, 3) := by decide +kernel
theorem dX12_feed_32 : decode cX12_feed 32 = .ok (.aload_n 0, 1) := by decide +kernel
theorem dX12_feed_33 : decode cX12_feed 33 = .ok (.getfield 73, 3) := by decide +kernel
theorem dX12_feed_36 : decode cX12_feed 36 = .ok (.iload_n 1, 1) := by decide +kernel
theorem dX12_feed_37 : decode cX12_feed 37 = .ok (.iastore, 1) := by decide +kernel
theorem dX12_feed_38 : decode cX12_feed 38 = .ok (.aload_n 0, 1) := by decide +kernel
theorem dX12_feed_39 : decode cX12_feed 39 = .ok (.dup, 1) := by decide +kernel
theorem dX12_feed_40 : decode cX12_feed 40 = .ok (.getfield 73, 3) := by decide +kernel
theorem dX12_feed_43 : decode cX12_feed 43 = .ok (.iconst 1, 1) := by decide +kernel
theorem dX12_feed_44 : decode cX12_feed 44 = .ok (.iadd, 1) := by decide +kernel
theorem dX12_feed_45 : decode cX12_feed 45 = .ok (.putfield 73, 3) := by decide +kernel
theorem dX12_feed_48 : decode cX12_feed 48 = .ok (.aload_n 0, 1) := by decide +kernel
theorem dX12_feed_49 : decode cX12_feed 49 = .ok (.getfield 73, 3) := by decide +kernel
theorem dX12_feed_52 : decode cX12_feed 52 = .ok (.ireturn, 1) := by decide +kernel
theorem dX12_here_0 : decode cX12_here 0 = .ok (.aload_n 0, 1) := by decide +kernel
theorem dX12_here_1 : decode cX12_here 1 = .ok (.getfield 77, 3) := by decide +kernel
theorem dX12_here_4 : decode cX12_here 4 = .ok (.aload_n 0, 1) := by decide +kernel
theorem dX12_here_5 : decode cX12_here 5 = .ok (.getfield 73, 3) := by decide +kernel
theorem dX12_here_8 : decode cX12_here 8 = .ok (.if_icmp .ge 30, 3) := by decide +kernel
theorem dX12_here_11 : decode cX12_here 11 = .ok (.aload_n 0, 1) := by decide +kernel
theorem dX12_here_12 : decode cX12_here 12 = .ok (.getfield 26, 3) := by decide +kernel
theorem dX12_here_15 : decode cX12_here 15 = .ok (.aload_n 0, 1) := by decide +kernel
theorem dX12_here_16 : decode cX12_here 16 = .ok (.getfield 77, 3) := by decide +kernel
theorem dX12_here_19 : decode cX12_here 19 = .ok (.iaload, 1) := by decide +kernel
theorem dX12_here_20 : decode cX12_here 20 = .ok (.bipush 32, 2) := by decide +kernel
theorem dX12_here_22 : decode cX12_here 22 = .ok (.if_icmp .ne 16, 3) := by decide +kernel
theorem dX12_here_25 : decode cX12_here 25 = .ok (.aload_n 0, 1) := by decide +kernel
theorem dX12_here_26 : decode cX12_here 26 = .ok (.dup, 1) := by decide +kernel
theorem dX12_here_27 : decode cX12_here 27 = .ok (.getfield 77, 3) := by decide +kernel
theorem dX12_here_30 : decode cX12_here 30 = .ok (.iconst 1, 1) := by decide +kernel
theorem dX12_here_31 : decode cX12_here 31 = .ok (.iadd, 1) := by decide +kernel
theorem dX12_here_32 : decode cX12_here 32 = .ok (.putfield 77, 3) := by decide +kernel
theorem dX12_here_35 : decode cX12_here 35 = .ok (.goto (-35), 3) := by decide +kernel
theorem dX12_here_38 : decode cX12_here 38 = .ok (.aload_n 0, 1) := by decide +kernel
theorem dX12_here_39 : decode cX12_here 39 = .ok (.getfield 77, 3) := by decide +kernel
theorem dX12_here_42 : decode cX12_here 42 = .ok (.aload_n 0, 1) := by decide +kernel
theorem dX12_here_43 : decode cX12_here 43 = .ok (.getfield 73, 3) := by decide +kernel
theorem dX12_here_46 : decode cX12_here 46 = .ok (.if_icmp .ge 15, 3) := by decide +kernel
theorem dX12_here_49 : decode cX12_here 49 = .ok (.aload_n 0, 1) := by decide +kernel
theorem dX12_here_50 : decode cX12_here 50 = .ok (.getfield 26, 3) := by decide +kernel
theorem dX12_here_53 : decode cX12_here 53 = .ok (.aload_n 0, 1) := by decide +kernel
theorem dX12_here_54 : decode cX12_here 54 = .ok (.getfield 77, 3) := by decide +kernel
theorem dX12_here_57 : decode cX12_here 57 = .ok (.iaload, 1) := by decide +kernel
theorem dX12_here_58 : decode cX12_here 58 = .ok (.goto 4, 3) := by decide +kernel
theorem dX12_here_61 : decode cX12_here 61 = .ok (.iconst (-1), 1) := by decide +kernel
theorem dX12_here_62 : decode cX12_here 62 = .ok (.ireturn, 1) := by decide +kernel
theorem dX12_want_0 : decode cX12_want 0 = .ok (.iload_n 1, 1) := by decide +kernel
theorem dX12_want_1 : decode cX12_want 1 = .ok (.ifCond .ne 20, 3) := by decide +kernel
theorem dX12_want_4 : decode cX12_want 4 = .ok (.aload_n 0, 1) := by decide +kernel
theorem dX12_want_5 : decode cX12_want 5 = .ok (.getfield 80, 3) := by decide +kernel
theorem dX12_want_8 : decode cX12_want 8 = .ok (.ifCond .ne 13, 3) := by decide +kernel
theorem dX12_want_11 : decode cX12_want 11 = .ok (.aload_n 0, 1) := by decide +kernel
theorem dX12_want_12 : decode cX12_want 12 = .ok (.iload_n 2, 1) := by decide +kernel
theorem dX12_want_13 : decode cX12_want 13 = .ok (.putfield 80, 3) := by decide +kernel
theorem dX12_want_16 : decode cX12_want 16 = .ok (.aload_n 0, 1) := by decide +kernel
theorem dX12_want_17 : decode cX12_want 17 = .ok (.iload_n 3, 1) := by decide +kernel
theorem dX12_want_18 : decode cX12_want 18 = .ok (.putfield 29, 3) := by decide +kernel
theorem dX12_want_21 : decode cX12_want 21 = .ok (.aload_n 0, 1) := by decide +kernel
theorem dX12_want_22 : decode cX12_want 22 = .ok (.getfield 80, 3) := by decide +kernel
theorem dX12_want_25 : decode cX12_want 25 = .ok (.ifCond .ne 7, 3) := by decide +kernel
theorem dX12_want_28 : decode cX12_want 28 = .ok (.iconst 1, 1) := by decide +kernel
theorem dX12_want_29 : decode cX12_want 29 = .ok (.goto 4, 3) := by decide +kernel
theorem dX12_want_32 : decode cX12_want 32 = .ok (.iconst 0, 1) := by decide +kernel
theorem dX12_want_33 : decode cX12_want 33 = .ok (.ireturn, 1) := by decide +kernel
theorem dX12_takeNumber_0 : decode cX12_takeNumber 0 = .ok (.aload_n 0, 1) := by decide +kernel
theorem dX12_takeNumber_1 : decode cX12_takeNumber 1 = .ok (.getfield 80, 3) := by decide +kernel
theorem dX12_takeNumber_4 : decode cX12_takeNumber 4 = .ok (.ifCond .le 5, 3) := by decide +kernel
theorem dX12_takeNumber_7 : decode cX12_takeNumber 7 = .ok (.iconst 0, 1) := by decide +kernel
theorem dX12_takeNumber_8 : decode cX12_takeNumber 8 = .ok (.ireturn, 1) := by decide +kernel
theorem dX12_takeNumber_9 : decode cX12_takeNumber 9 = .ok (.aload_n 0, 1) := by decide +kernel
theorem dX12_takeNumber_10 : decode cX12_takeNumber 10 = .ok (.invokevirtual 83, 3) := by decide +kernel
theorem dX12_takeNumber_13 : decode cX12_takeNumber 13 = .ok (.istore_n 3, 1) := by decide +kernel
theorem dX12_takeNumber_14 : decode cX12_takeNumber 14 = .ok (.aload_n 0, 1) := by decide +kernel
theorem dX12_takeNumber_15 : decode cX12_takeNumber 15 = .ok (.aload_n 0, 1) := by decide +kernel
theorem dX12_takeNumber_16 : decode cX12_takeNumber 16 = .ok (.getfield 77, 3) := by decide +kernel
theorem dX12_takeNumber_19 : decode cX12_takeNumber 19 = .ok (.putfield 87, 3) := by decide +kernel
theorem dX12_takeNumber_22 : decode cX12_takeNumber 22 = .ok (.aload_n 0, 1) := by decide +kernel
theorem dX12_takeNumber_23 : decode cX12_takeNumber 23 = .ok (.iload_n 3, 1) := by decide +kernel
theorem dX12_takeNumber_24 : decode cX12_takeNumber 24 = .ok (.i2l, 1) := by decide +kernel
theorem dX12_takeNumber_25 : decode cX12_takeNumber 25 = .ok (.ldc2_w 90, 3) := by decide +kernel
theorem dX12_takeNumber_28 : decode cX12_takeNumber 28 = .ok (.ldc2_w 92, 3) := by decide +kernel
theorem dX12_takeNumber_31 : decode cX12_takeNumber 31 = .ok (.invokestatic 68, 3) := by decide +kernel
theorem dX12_takeNumber_34 : decode cX12_takeNumber 34 = .ok (.iconst 1, 1) := by decide +kernel
theorem dX12_takeNumber_35 : decode cX12_takeNumber 35 = .ok (.aload_n 0, 1) := by decide +kernel
theorem dX12_takeNumber_36 : decode cX12_takeNumber 36 = .ok (.getfield 77, 3) := by decide +kernel
theorem dX12_takeNumber_39 : decode cX12_takeNumber 39 = .ok (.invokevirtual 94, 3) := by decide +kernel
theorem dX12_takeNumber_42 : decode cX12_takeNumber 42 = .ok (.ifCond .ne 5, 3) := by decide +kernel
theorem dX12_takeNumber_45 : decode cX12_takeNumber 45 = .ok (.iconst 0, 1) := by decide +kernel
theorem dX12_takeNumber_46 : decode cX12_takeNumber 46 = .ok (.ireturn, 1) := by decide +kernel
theorem dX12_takeNumber_47 : decode cX12_takeNumber 47 = .ok (.iconst 0, 1) := by decide +kernel
theorem dX12_takeNumber_48 : decode cX12_takeNumber 48 = .ok (.istore 4, 2) := by decide +kernel
theorem dX12_takeNumber_50 : decode cX12_takeNumber 50 = .ok (.aload_n 0, 1) := by decide +kernel
theorem dX12_takeNumber_51 : decode cX12_takeNumber 51 = .ok (.getfield 77, 3) := by decide +kernel
theorem dX12_takeNumber_54 : decode cX12_takeNumber 54 = .ok (.aload_n 0, 1) := by decide +kernel
theorem dX12_takeNumber_55 : decode cX12_takeNumber 55 = .ok (.getfield 73, 3) := by decide +kernel
theorem dX12_takeNumber_58 : decode cX12_takeNumber 58 = .ok (.if_icmp .ge 70, 3) := by decide +kernel
theorem dX12_takeNumber_61 : decode cX12_takeNumber 61 = .ok (.aload_n 0, 1) := by decide +kernel
theorem dX12_takeNumber_62 : decode cX12_takeNumber 62 = .ok (.getfield 26, 3) := by decide +kernel
theorem dX12_takeNumber_65 : decode cX12_takeNumber 65 = .ok (.aload_n 0, 1) := by decide +kernel
theorem dX12_takeNumber_66 : decode cX12_takeNumber 66 = .ok (.getfield 77, 3) := by decide +kernel
theorem dX12_takeNumber_69 : decode cX12_takeNumber 69 = .ok (.iaload, 1) := by decide +kernel
theorem dX12_takeNumber_70 : decode cX12_takeNumber 70 = .ok (.i2l, 1) := by decide +kernel
theorem dX12_takeNumber_71 : decode cX12_takeNumber 71 = .ok (.ldc2_w 90, 3) := by decide +kernel
theorem dX12_takeNumber_74 : decode cX12_takeNumber 74 = .ok (.ldc2_w 92, 3) := by decide +kernel
theorem dX12_takeNumber_77 : decode cX12_takeNumber 77 = .ok (.invokestatic 68, 3) := by decide +kernel
theorem dX12_takeNumber_80 : decode cX12_takeNumber 80 = .ok (.ifCond .eq 48, 3) := by decide +kernel
theorem dX12_takeNumber_83 : decode cX12_takeNumber 83 = .ok (.iload 4, 2) := by decide +kernel
theorem dX12_takeNumber_85 : decode cX12_takeNumber 85 = .ok (.ldc 98, 2) := by decide +kernel
theorem dX12_takeNumber_87 : decode cX12_takeNumber 87 = .ok (.if_icmp .le 8, 3) := by decide +kernel
theorem dX12_takeNumber_90 : decode cX12_takeNumber 90 = .ok (.iload 4, 2) := by decide +kernel
theorem dX12_takeNumber_92 : decode cX12_takeNumber 92 = .ok (.goto 21, 3) := by decide +kernel
theorem dX12_takeNumber_95 : decode cX12_takeNumber 95 = .ok (.bipush 10, 2) := by decide +kernel
theorem dX12_takeNumber_97 : decode cX12_takeNumber 97 = .ok (.iload 4, 2) := by decide +kernel
theorem dX12_takeNumber_99 : decode cX12_takeNumber 99 = .ok (.imul, 1) := by decide +kernel
theorem dX12_takeNumber_100 : decode cX12_takeNumber 100 = .ok (.aload_n 0, 1) := by decide +kernel
theorem dX12_takeNumber_101 : decode cX12_takeNumber 101 = .ok (.getfield 26, 3) := by decide +kernel
theorem dX12_takeNumber_104 : decode cX12_takeNumber 104 = .ok (.aload_n 0, 1) := by decide +kernel
theorem dX12_takeNumber_105 : decode cX12_takeNumber 105 = .ok (.getfield 77, 3) := by decide +kernel
theorem dX12_takeNumber_108 : decode cX12_takeNumber 108 = .ok (.iaload, 1) := by decide +kernel
theorem dX12_takeNumber_109 : decode cX12_takeNumber 109 = .ok (.iadd, 1) := by decide +kernel
theorem dX12_takeNumber_110 : decode cX12_takeNumber 110 = .ok (.bipush 48, 2) := by decide +kernel
theorem dX12_takeNumber_112 : decode cX12_takeNumber 112 = .ok (.isub, 1) := by decide +kernel
theorem dX12_takeNumber_113 : decode cX12_takeNumber 113 = .ok (.istore 4, 2) := by decide +kernel
theorem dX12_takeNumber_115 : decode cX12_takeNumber 115 = .ok (.aload_n 0, 1) := by decide +kernel
theorem dX12_takeNumber_116 : decode cX12_takeNumber 116 = .ok (.dup, 1) := by decide +kernel
theorem dX12_takeNumber_117 : decode cX12_takeNumber 117 = .ok (.getfield 77, 3) := by decide +kernel
theorem dX12_takeNumber_120 : decode cX12_takeNumber 120 = .ok (.iconst 1, 1) := by decide +kernel
theorem dX12_takeNumber_121 : decode cX12_takeNumber 121 = .ok (.iadd, 1) := by decide +kernel
theorem dX12_takeNumber_122 : decode cX12_takeNumber 122 = .ok (.putfield 77, 3) := by decide +kernel
theorem dX12_takeNumber_125 : decode cX12_takeNumber 125 = .ok (.goto (-75), 3) := by decide +kernel
theorem dX12_takeNumber_128 : decode cX12_takeNumber 128 = .ok (.aload_n 0, 1) := by decide +kernel
theorem dX12_takeNumber_129 : decode cX12_takeNumber 129 = .ok (.aload_n 0, 1) := by decide +kernel
theorem dX12_takeNumber_130 : decode cX12_takeNumber 130 = .ok (.getfield 77, 3) := by decide +kernel
theorem dX12_takeNumber_133 : decode cX12_takeNumber 133 = .ok (.aload_n 0, 1) := by decide +kernel
theorem dX12_takeNumber_134 : decode cX12_takeNumber 134 = .ok (.getfield 87, 3) := by decide +kernel
theorem dX12_takeNumber_137 : decode cX12_takeNumber 137 = .ok (.isub, 1) := by decide +kernel
theorem dX12_takeNumber_138 : decode cX12_takeNumber 138 = .ok (.iconst 4, 1) := by decide +kernel
theorem dX12_takeNumber_139 : decode cX12_takeNumber 139 = .ok (.if_icmp .ge 20, 3) := by decide +kernel
theorem dX12_takeNumber_142 : decode cX12_takeNumber 142 = .ok (.iload 4, 2) := by decide +kernel
theorem dX12_takeNumber_144 : decode cX12_takeNumber 144 = .ok (.i2l, 1) := by decide +kernel
theorem dX12_takeNumber_145 : decode cX12_takeNumber 145 = .ok (.iload_n 1, 1) := by decide +kernel
theorem dX12_takeNumber_146 : decode cX12_takeNumber 146 = .ok (.i2l, 1) := by decide +kernel
theorem dX12_takeNumber_147 : decode cX12_takeNumber 147 = .ok (.iload_n 2, 1) := by decide +kernel
theorem dX12_takeNumber_148 : decode cX12_takeNumber 148 = .ok (.i2l, 1) := by decide +kernel
theorem dX12_takeNumber_149 : decode cX12_takeNumber 149 = .ok (.invokestatic 68, 3) := by decide +kernel
theorem dX12_takeNumber_152 : decode cX12_takeNumber 152 = .ok (.ifCond .eq 7, 3) := by decide +kernel
theorem dX12_takeNumber_155 : decode cX12_takeNumber 155 = .ok (.iconst 1, 1) := by decide +kernel
theorem dX12_takeNumber_156 : decode cX12_takeNumber 156 = .ok (.goto 4, 3) := by decide +kernel
theorem dX12_takeNumber_159 : decode cX12_takeNumber 159 = .ok (.iconst 0, 1) := by decide +kernel
theorem dX12_takeNumber_160 : decode cX12_takeNumber 160 = .ok (.iconst 2, 1) := by decide +kernel
theorem dX12_takeNumber_161 : decode cX12_takeNumber 161 = .ok (.aload_n 0, 1) := by decide +kernel
theorem dX12_takeNumber_162 : decode cX12_takeNumber 162 = .ok (.getfield 87, 3) := by decide +kernel
theorem dX12_takeNumber_165 : decode cX12_takeNumber 165 = .ok (.invokevirtual 94, 3) := by decide +kernel
theorem dX12_takeNumber_168 : decode cX12_takeNumber 168 = .ok (.istore 5, 2) := by decide +kernel
theorem dX12_takeNumber_170 : decode cX12_takeNumber 170 = .ok (.iload 4, 2) := by decide +kernel
theorem dX12_takeNumber_172 : decode cX12_takeNumber 172 = .ok (.ireturn, 1) := by decide +kernel
theorem dX12_takeField_0 : decode cX12_takeField 0 = .ok (.iconst 4, 1) := by decide +kernel
theorem dX12_takeField_1 : decode cX12_takeField 1 = .ok (.bipush 8, 2) := by decide +kernel
theorem dX12_takeField_3 : decode cX12_takeField 3 = .ok (.aload_n 0, 1) := by decide +kernel
theorem dX12_takeField_4 : decode cX12_takeField 4 = .ok (.getfield 99, 3) := by decide +kernel
theorem dX12_takeField_7 : decode cX12_takeField 7 = .ok (.iadd, 1) := by decide +kernel
theorem dX12_takeField_8 : decode cX12_takeField 8 = .ok (.imul, 1) := by decide +kernel
theorem dX12_takeField_9 : decode cX12_takeField 9 = .ok (.istore_n 1, 1) := by decide +kernel
theorem dX12_takeField_10 : decode cX12_takeField 10 = .ok (.aload_n 0, 1) := by decide +kernel
theorem dX12_takeField_11 : decode cX12_takeField 11 = .ok (.getfield 17, 3) := by decide +kernel
theorem dX12_takeField_14 : decode cX12_takeField 14 = .ok (.iload_n 1, 1) := by decide +kernel
theorem dX12_takeField_15 : decode cX12_takeField 15 = .ok (.aload_n 0, 1) := by decide +kernel
theorem dX12_takeField_16 : decode cX12_takeField 16 = .ok (.iconst 0, 1) := by decide +kernel
theorem dX12_takeField_17 : decode cX12_takeField 17 = .ok (.bipush 99, 2) := by decide +kernel
theorem dX12_takeField_19 : decode cX12_takeField 19 = .ok (.invokevirtual 102, 3) := by decide +kernel
theorem dX12_takeField_22 : decode cX12_takeField 22 = .ok (.iastore, 1) := by decide +kernel
theorem dX12_takeField_23 : decode cX12_takeField 23 = .ok (.aload_n 0, 1) := by decide +kernel
theorem dX12_takeField_24 : decode cX12_takeField 24 = .ok (.getfield 17, 3) := by decide +kernel
theorem dX12_takeField_27 : decode cX12_takeField 27 = .ok (.iload_n 1, 1) := by decide +kernel
theorem dX12_takeField_28 : decode cX12_takeField 28 = .ok (.iconst 1, 1) := by decide +kernel
theorem dX12_takeField_29 : decode cX12_takeField 29 = .ok (.iadd, 1) := by decide +kernel
theorem dX12_takeField_30 : decode cX12_takeField 30 = .ok (.aload_n 0, 1) := by decide +kernel
theorem dX12_takeField_31 : decode cX12_takeField 31 = .ok (.iconst 2, 1) := by decide +kernel
theorem dX12_takeField_32 : decode cX12_takeField 32 = .ok (.bipush 12, 2) := by decide +kernel
theorem dX12_takeField_34 : decode cX12_takeField 34 = .ok (.invokevirtual 102, 3) := by decide +kernel
theorem dX12_takeField_37 : decode cX12_takeField 37 = .ok (.iastore, 1) := by decide +kernel
theorem dX12_takeField_38 : decode cX12_takeField 38 = .ok (.aload_n 0, 1) := by decide +kernel
theorem dX12_takeField_39 : decode cX12_takeField 39 = .ok (.getfield 17, 3) := by decide +kernel
theorem dX12_takeField_42 : decode cX12_takeField 42 = .ok (.iload_n 1, 1) := by decide +kernel
theorem dX12_takeField_43 : decode cX12_takeField 43 = .ok (.iconst 2, 1) := by decide +kernel
theorem dX12_takeField_44 : decode cX12_takeField 44 = .ok (.iadd, 1) := by decide +kernel
theorem dX12_takeField_45 : decode cX12_takeField 45 = .ok (.aload_n 0, 1) := by decide +kernel
theorem dX12_takeField_46 : decode cX12_takeField 46 = .ok (.iconst 0, 1) := by decide +kernel
theorem dX12_takeField_47 : decode cX12_takeField 47 = .ok (.bipush 11, 2) := by decide +kernel
theorem dX12_takeField_49 : decode cX12_takeField 49 = .ok (.invokevirtual 102, 3) := by decide +kernel
theorem dX12_takeField_52 : decode cX12_takeField 52 = .ok (.iastore, 1) := by decide +kernel
theorem dX12_takeField_53 : decode cX12_takeField 53 = .ok (.aload_n 0, 1) := by decide +kernel
theorem dX12_takeField_54 : decode cX12_takeField 54 = .ok (.getfield 17, 3) := by decide +kernel
theorem dX12_takeField_57 : decode cX12_takeField 57 = .ok (.iload_n 1, 1) := by decide +kernel
theorem dX12_takeField_58 : decode cX12_takeField 58 = .ok (.iconst 3, 1) := by decide +kernel
theorem dX12_takeField_59 : decode cX12_takeField 59 = .ok (.iadd, 1) := by decide +kernel
theorem dX12_takeField_60 : decode cX12_takeField 60 = .ok (.aload_n 0, 1) := by decide +kernel
theorem dX12_takeField_61 : decode cX12_takeField 61 = .ok (.iconst 0, 1) := by decide +kernel
theorem dX12_takeField_62 : decode cX12_takeField 62 = .ok (.bipush 9, 2) := by decide +kernel
theorem dX12_takeField_64 : decode cX12_takeField 64 = .ok (.invokevirtual 102, 3) := by decide +kernel
theorem dX12_takeField_67 : decode cX12_takeField 67 = .ok (.iastore, 1) := by decide +kernel
theorem dX12_takeField_68 : decode cX12_takeField 68 = .ok (.aload_n 0, 1) := by decide +kernel
theorem dX12_takeField_69 : decode cX12_takeField 69 = .ok (.dup, 1) := by decide +kernel
theorem dX12_takeField_70 : decode cX12_takeField 70 = .ok (.getfield 99, 3) := by decide +kernel
theorem dX12_takeField_73 : decode cX12_takeField 73 = .ok (.iconst 1, 1) := by decide +kernel
theorem dX12_takeField_74 : decode cX12_takeField 74 = .ok (.iadd, 1) := by decide +kernel
theorem dX12_takeField_75 : decode cX12_takeField 75 = .ok (.putfield 99, 3) := by decide +kernel
theorem dX12_takeField_78 : decode cX12_takeField 78 = .ok (.return_, 1) := by decide +kernel
theorem dX12_takeHouse_0 : decode cX12_takeHouse 0 = .ok (.iconst 2, 1) := by decide +kernel
theorem dX12_takeHouse_1 : decode cX12_takeHouse 1 = .ok (.iconst 4, 1) := by decide +kernel
theorem dX12_takeHouse_2 : decode cX12_takeHouse 2 = .ok (.aload_n 0, 1) := by decide +kernel
theorem dX12_takeHouse_3 : decode cX12_takeHouse 3 = .ok (.getfield 106, 3) := by decide +kernel
theorem dX12_takeHouse_6 : decode cX12_takeHouse 6 = .ok (.iadd, 1) := by decide +kernel
theorem dX12_takeHouse_7 : decode cX12_takeHouse 7 = .ok (.imul, 1) := by decide +kernel
theorem dX12_takeHouse_8 : decode cX12_takeHouse 8 = .ok (.istore_n 1, 1) := by decide +kernel
theorem dX12_takeHouse_9 : decode cX12_takeHouse 9 = .ok (.aload_n 0, 1) := by decide +kernel
theorem dX12_takeHouse_10 : decode cX12_takeHouse 10 = .ok (.getfield 20, 3) := by decide +kernel
theorem dX12_takeHouse_13 : decode cX12_takeHouse 13 = .ok (.iload_n 1, 1) := by decide +kernel
theorem dX12_takeHouse_14 : decode cX12_takeHouse 14 = .ok (.aload_n 0, 1) := by decide +kernel
theorem dX12_takeHouse_15 : decode cX12_takeHouse 15 = .ok (.iconst 0, 1) := by decide +kernel
theorem dX12_takeHouse_16 : decode cX12_takeHouse 16 = .ok (.aload_n 0, 1) := by decide +kernel
theorem dX12_takeHouse_17 : decode cX12_takeHouse 17 = .ok (.getfield 99, 3) := by decide +kernel
theorem dX12_takeHouse_20 : decode cX12_takeHouse 20 = .ok (.iconst 2, 1) := by decide +kernel
theorem dX12_takeHouse_21 : decode cX12_takeHouse 21 = .ok (.isub, 1) := by decide +kernel
theorem dX12_takeHouse_22 : decode cX12_takeHouse 22 = .ok (.invokevirtual 102, 3) := by decide +kernel
theorem dX12_takeHouse_25 : decode cX12_takeHouse 25 = .ok (.iastore, 1) := by decide +kernel
theorem dX12_takeHouse_26 : decode cX12_takeHouse 26 = .ok (.aload_n 0, 1) := by decide +kernel
theorem dX12_takeHouse_27 : decode cX12_takeHouse 27 = .ok (.getfield 20, 3) := by decide +kernel
theorem dX12_takeHouse_30 : decode cX12_takeHouse 30 = .ok (.iload_n 1, 1) := by decide +kernel
theorem dX12_takeHouse_31 : decode cX12_takeHouse 31 = .ok (.iconst 1, 1) := by decide +kernel
theorem dX12_takeHouse_32 : decode cX12_takeHouse 32 = .ok (.iadd, 1) := by decide +kernel
theorem dX12_takeHouse_33 : decode cX12_takeHouse 33 = .ok (.aload_n 0, 1) := by decide +kernel
theorem dX12_takeHouse_34 : decode cX12_takeHouse 34 = .ok (.iconst 0, 1) := by decide +kernel
theorem dX12_takeHouse_35 : decode cX12_takeHouse 35 = .ok (.bipush 99, 2) := by decide +kernel
theorem dX12_takeHouse_37 : decode cX12_takeHouse 37 = .ok (.invokevirtual 102, 3) := by decide +kernel
theorem dX12_takeHouse_40 : decode cX12_takeHouse 40 = .ok (.iastore, 1) := by decide +kernel
theorem dX12_takeHouse_41 : decode cX12_takeHouse 41 = .ok (.aload_n 0, 1) := by decide +kernel
theorem dX12_takeHouse_42 : decode cX12_takeHouse 42 = .ok (.dup, 1) := by decide +kernel
theorem dX12_takeHouse_43 : decode cX12_takeHouse 43 = .ok (.getfield 106, 3) := by decide +kernel
theorem dX12_takeHouse_46 : decode cX12_takeHouse 46 = .ok (.iconst 1, 1) := by decide +kernel
theorem dX12_takeHouse_47 : decode cX12_takeHouse 47 = .ok (.iadd, 1) := by decide +kernel
theorem dX12_takeHouse_48 : decode cX12_takeHouse 48 = .ok (.putfield 106, 3) := by decide +kernel
theorem dX12_takeHouse_51 : decode cX12_takeHouse 51 = .ok (.return_, 1) := by decide +kernel
theorem dX12_takeSeam_0 : decode cX12_takeSeam 0 = .ok (.iconst 4, 1) := by decide +kernel
theorem dX12_takeSeam_1 : decode cX12_takeSeam 1 = .ok (.iconst 4, 1) := by decide +kernel
theorem dX12_takeSeam_2 : decode cX12_takeSeam 2 = .ok (.aload_n 0, 1) := by decide +kernel
theorem dX12_takeSeam_3 : decode cX12_takeSeam 3 = .ok (.getfield 109, 3) := by decide +kernel
theorem dX12_takeSeam_6 : decode cX12_takeSeam 6 = .ok (.iadd, 1) := by decide +kernel
theorem dX12_takeSeam_7 : decode cX12_takeSeam 7 = .ok (.imul, 1) := by decide +kernel
theorem dX12_takeSeam_8 : decode cX12_takeSeam 8 = .ok (.istore_n 1, 1) := by decide +kernel
theorem dX12_takeSeam_9 : decode cX12_takeSeam 9 = .ok (.aload_n 0, 1) := by decide +kernel
theorem dX12_takeSeam_10 : decode cX12_takeSeam 10 = .ok (.getfield 23, 3) := by decide +kernel
theorem dX12_takeSeam_13 : decode cX12_takeSeam 13 = .ok (.iload_n 1, 1) := by decide +kernel
theorem dX12_takeSeam_14 : decode cX12_takeSeam 14 = .ok (.aload_n 0, 1) := by decide +kernel
theorem dX12_takeSeam_15 : decode cX12_takeSeam 15 = .ok (.iconst 0, 1) := by decide +kernel
theorem dX12_takeSeam_16 : decode cX12_takeSeam 16 = .ok (.aload_n 0, 1) := by decide +kernel
theorem dX12_takeSeam_17 : decode cX12_takeSeam 17 = .ok (.getfield 99, 3) := by decide +kernel
theorem dX12_takeSeam_20 : decode cX12_takeSeam 20 = .ok (.iconst 2, 1) := by decide +kernel
theorem dX12_takeSeam_21 : decode cX12_takeSeam 21 = .ok (.isub, 1) := by decide +kernel
theorem dX12_takeSeam_22 : decode cX12_takeSeam 22 = .ok (.invokevirtual 102, 3) := by decide +kernel
theorem dX12_takeSeam_25 : decode cX12_takeSeam 25 = .ok (.iastore, 1) := by decide +kernel
theorem dX12_takeSeam_26 : decode cX12_takeSeam 26 = .ok (.aload_n 0, 1) := by decide +kernel
theorem dX12_takeSeam_27 : decode cX12_takeSeam 27 = .ok (.getfield 23, 3) := by decide +kernel
theorem dX12_takeSeam_30 : decode cX12_takeSeam 30 = .ok (.iload_n 1, 1) := by decide +kernel
theorem dX12_takeSeam_31 : decode cX12_takeSeam 31 = .ok (.iconst 1, 1) := by decide +kernel
theorem dX12_takeSeam_32 : decode cX12_takeSeam 32 = .ok (.iadd, 1) := by decide +kernel
theorem dX12_takeSeam_33 : decode cX12_takeSeam 33 = .ok (.aload_n 0, 1) := by decide +kernel
theorem dX12_takeSeam_34 : decode cX12_takeSeam 34 = .ok (.iconst 1, 1) := by decide +kernel
theorem dX12_takeSeam_35 : decode cX12_takeSeam 35 = .ok (.bipush 12, 2) := by decide +kernel
theorem dX12_takeSeam_37 : decode cX12_takeSeam 37 = .ok (.invokevirtual 102, 3) := by decide +kernel
theorem dX12_takeSeam_40 : decode cX12_takeSeam 40 = .ok (.iastore, 1) := by decide +kernel
theorem dX12_takeSeam_41 : decode cX12_takeSeam 41 = .ok (.aload_n 0, 1) := by decide +kernel
theorem dX12_takeSeam_42 : decode cX12_takeSeam 42 = .ok (.getfield 23, 3) := by decide +kernel
theorem dX12_takeSeam_45 : decode cX12_takeSeam 45 = .ok (.iload_n 1, 1) := by decide +kernel
theorem dX12_takeSeam_46 : decode cX12_takeSeam 46 = .ok (.iconst 2, 1) := by decide +kernel
theorem dX12_takeSeam_47 : decode cX12_takeSeam 47 = .ok (.iadd, 1) := by decide +kernel
theorem dX12_takeSeam_48 : decode cX12_takeSeam 48 = .ok (.aload_n 0, 1) := by decide +kernel
theorem dX12_takeSeam_49 : decode cX12_takeSeam 49 = .ok (.iconst 0, 1) := by decide +kernel
theorem dX12_takeSeam_50 : decode cX12_takeSeam 50 = .ok (.bipush 11, 2) := by decide +kernel
theorem dX12_takeSeam_52 : decode cX12_takeSeam 52 = .ok (.invokevirtual 102, 3) := by decide +kernel
theorem dX12_takeSeam_55 : decode cX12_takeSeam 55 = .ok (.iastore, 1) := by decide +kernel
theorem dX12_takeSeam_56 : decode cX12_takeSeam 56 = .ok (.aload_n 0, 1) := by decide +kernel
theorem dX12_takeSeam_57 : decode cX12_takeSeam 57 = .ok (.getfield 23, 3) := by decide +kernel
theorem dX12_takeSeam_60 : decode cX12_takeSeam 60 = .ok (.iload_n 1, 1) := by decide +kernel
theorem dX12_takeSeam_61 : decode cX12_takeSeam 61 = .ok (.iconst 3, 1) := by decide +kernel
theorem dX12_takeSeam_62 : decode cX12_takeSeam 62 = .ok (.iadd, 1) := by decide +kernel
theorem dX12_takeSeam_63 : decode cX12_takeSeam 63 = .ok (.aload_n 0, 1) := by decide +kernel
theorem dX12_takeSeam_64 : decode cX12_takeSeam 64 = .ok (.iconst 0, 1) := by decide +kernel
theorem dX12_takeSeam_65 : decode cX12_takeSeam 65 = .ok (.bipush 12, 2) := by decide +kernel
theorem dX12_takeSeam_67 : decode cX12_takeSeam 67 = .ok (.invokevirtual 102, 3) := by decide +kernel
theorem dX12_takeSeam_70 : decode cX12_takeSeam 70 = .ok (.iastore, 1) := by decide +kernel
theorem dX12_takeSeam_71 : decode cX12_takeSeam 71 = .ok (.aload_n 0, 1) := by decide +kernel
theorem dX12_takeSeam_72 : decode cX12_takeSeam 72 = .ok (.dup, 1) := by decide +kernel
theorem dX12_takeSeam_73 : decode cX12_takeSeam 73 = .ok (.getfield 109, 3) := by decide +kernel
theorem dX12_takeSeam_76 : decode cX12_takeSeam 76 = .ok (.iconst 1, 1) := by decide +kernel
theorem dX12_takeSeam_77 : decode cX12_takeSeam 77 = .ok (.iadd, 1) := by decide +kernel
theorem dX12_takeSeam_78 : decode cX12_takeSeam 78 = .ok (.putfield 109, 3) := by decide +kernel
theorem dX12_takeSeam_81 : decode cX12_takeSeam 81 = .ok (.return_, 1) := by decide +kernel
theorem dX12_takeClause_0 : decode cX12_takeClause 0 = .ok (.aload_n 0, 1) := by decide +kernel
theorem dX12_takeClause_1 : decode cX12_takeClause 1 = .ok (.invokevirtual 83, 3) := by decide +kernel
theorem dX12_takeClause_4 : decode cX12_takeClause 4 = .ok (.istore_n 1, 1) := by decide +kernel
theorem dX12_takeClause_5 : decode cX12_takeClause 5 = .ok (.aload_n 0, 1) := by decide +kernel
theorem dX12_takeClause_6 : decode cX12_takeClause 6 = .ok (.getfield 77, 3) := by decide +kernel
theorem dX12_takeClause_9 : decode cX12_takeClause 9 = .ok (.istore_n 2, 1) := by decide +kernel
theorem dX12_takeClause_10 : decode cX12_takeClause 10 = .ok (.aload_n 0, 1) := by decide +kernel
theorem dX12_takeClause_11 : decode cX12_takeClause 11 = .ok (.dup, 1) := by decide +kernel
theorem dX12_takeClause_12 : decode cX12_takeClause 12 = .ok (.getfield 77, 3) := by decide +kernel
theorem dX12_takeClause_15 : decode cX12_takeClause 15 = .ok (.iconst 1, 1) := by decide +kernel
theorem dX12_takeClause_16 : decode cX12_takeClause 16 = .ok (.iadd, 1) := by decide +kernel
theorem dX12_takeClause_17 : decode cX12_takeClause 17 = .ok (.putfield 77, 3) := by decide +kernel
theorem dX12_takeClause_20 : decode cX12_takeClause 20 = .ok (.iload_n 1, 1) := by decide +kernel
theorem dX12_takeClause_21 : decode cX12_takeClause 21 = .ok (.bipush 102, 2) := by decide +kernel
theorem dX12_takeClause_23 : decode cX12_takeClause 23 = .ok (.if_icmp .ne 33, 3) := by decide +kernel
theorem dX12_takeClause_26 : decode cX12_takeClause 26 = .ok (.aload_n 0, 1) := by decide +kernel
theorem dX12_takeClause_27 : decode cX12_takeClause 27 = .ok (.aload_n 0, 1) := by decide +kernel
theorem dX12_takeClause_28 : decode cX12_takeClause 28 = .ok (.getfield 99, 3) := by decide +kernel
theorem dX12_takeClause_31 : decode cX12_takeClause 31 = .ok (.bipush 8, 2) := by decide +kernel
theorem dX12_takeClause_33 : decode cX12_takeClause 33 = .ok (.if_icmp .ge 7, 3) := by decide +kernel
theorem dX12_takeClause_36 : decode cX12_takeClause 36 = .ok (.iconst 1, 1) := by decide +kernel
theorem dX12_takeClause_37 : decode cX12_takeClause 37 = .ok (.goto 4, 3) := by decide +kernel
theorem dX12_takeClause_40 : decode cX12_takeClause 40 = .ok (.iconst 0, 1) := by decide +kernel
theorem dX12_takeClause_41 : decode cX12_takeClause 41 = .ok (.iconst 3, 1) := by decide +kernel
theorem dX12_takeClause_42 : decode cX12_takeClause 42 = .ok (.iload_n 2, 1) := by decide +kernel
theorem dX12_takeClause_43 : decode cX12_takeClause 43 = .ok (.invokevirtual 94, 3) := by decide +kernel
theorem dX12_takeClause_46 : decode cX12_takeClause 46 = .ok (.ifCond .eq 141, 3) := by decide +kernel
theorem dX12_takeClause_49 : decode cX12_takeClause 49 = .ok (.aload_n 0, 1) := by decide +kernel
theorem dX12_takeClause_50 : decode cX12_takeClause 50 = .ok (.invokevirtual 112, 3) := by decide +kernel
theorem dX12_takeClause_53 : decode cX12_takeClause 53 = .ok (.goto 134, 3) := by decide +kernel
theorem dX12_takeClause_56 : decode cX12_takeClause 56 = .ok (.iload_n 1, 1) := by decide +kernel
theorem dX12_takeClause_57 : decode cX12_takeClause 57 = .ok (.bipush 104, 2) := by decide +kernel
theorem dX12_takeClause_59 : decode cX12_takeClause 59 = .ok (.if_icmp .ne 32, 3) := by decide +kernel
theorem dX12_takeClause_62 : decode cX12_takeClause 62 = .ok (.aload_n 0, 1) := by decide +kernel
theorem dX12_takeClause_63 : decode cX12_takeClause 63 = .ok (.aload_n 0, 1) := by decide +kernel
theorem dX12_takeClause_64 : decode cX12_takeClause 64 = .ok (.getfield 106, 3) := by decide +kernel
theorem dX12_takeClause_67 : decode cX12_takeClause 67 = .ok (.iconst 4, 1) := by decide +kernel
theorem dX12_takeClause_68 : decode cX12_takeClause 68 = .ok (.if_icmp .ge 7, 3) := by decide +kernel
theorem dX12_takeClause_71 : decode cX12_takeClause 71 = .ok (.iconst 1, 1) := by decide +kernel
theorem dX12_takeClause_72 : decode cX12_takeClause 72 = .ok (.goto 4, 3) := by decide +kernel
theorem dX12_takeClause_75 : decode cX12_takeClause 75 = .ok (.iconst 0, 1) := by decide +kernel
theorem dX12_takeClause_76 : decode cX12_takeClause 76 = .ok (.iconst 3, 1) := by decide +kernel
theorem dX12_takeClause_77 : decode cX12_takeClause 77 = .ok (.iload_n 2, 1) := by decide +kernel
theorem dX12_takeClause_78 : decode cX12_takeClause 78 = .ok (.invokevirtual 94, 3) := by decide +kernel
theorem dX12_takeClause_81 : decode cX12_takeClause 81 = .ok (.ifCond .eq 106, 3) := by decide +kernel
theorem dX12_takeClause_84 : decode cX12_takeClause 84 = .ok (.aload_n 0, 1) := by decide +kernel
theorem dX12_takeClause_85 : decode cX12_takeClause 85 = .ok (.invokevirtual 115, 3) := by decide +kernel
theorem dX12_takeClause_88 : decode cX12_takeClause 88 = .ok (.goto 99, 3) := by decide +kernel
theorem dX12_takeClause_91 : decode cX12_takeClause 91 = .ok (.iload_n 1, 1) := by decide +kernel
theorem dX12_takeClause_92 : decode cX12_takeClause 92 = .ok (.bipush 115, 2) := by decide +kernel
theorem dX12_takeClause_94 : decode cX12_takeClause 94 = .ok (.if_icmp .ne 32, 3) := by decide +kernel
theorem dX12_takeClause_97 : decode cX12_takeClause 97 = .ok (.aload_n 0, 1) := by decide +kernel
theorem dX12_takeClause_98 : decode cX12_takeClause 98 = .ok (.aload_n 0, 1) := by decide +kernel
theorem dX12_takeClause_99 : decode cX12_takeClause 99 = .ok (.getfield 109, 3) := by decide +kernel
theorem dX12_takeClause_102 : decode cX12_takeClause 102 = .ok (.iconst 4, 1) := by decide +kernel
theorem dX12_takeClause_103 : decode cX12_takeClause 103 = .ok (.if_icmp .ge 7, 3) := by decide +kernel
theorem dX12_takeClause_106 : decode cX12_takeClause 106 = .ok (.iconst 1, 1) := by decide +kernel
theorem dX12_takeClause_107 : decode cX12_takeClause 107 = .ok (.goto 4, 3) := by decide +kernel
theorem dX12_takeClause_110 : decode cX12_takeClause 110 = .ok (.iconst 0, 1) := by decide +kernel
theorem dX12_takeClause_111 : decode cX12_takeClause 111 = .ok (.iconst 3, 1) := by decide +kernel
theorem dX12_takeClause_112 : decode cX12_takeClause 112 = .ok (.iload_n 2, 1) := by decide +kernel
theorem dX12_takeClause_113 : decode cX12_takeClause 113 = .ok (.invokevirtual 94, 3) := by decide +kernel
theorem dX12_takeClause_116 : decode cX12_takeClause 116 = .ok (.ifCond .eq 71, 3) := by decide +kernel
theorem dX12_takeClause_119 : decode cX12_takeClause 119 = .ok (.aload_n 0, 1) := by decide +kernel
theorem dX12_takeClause_120 : decode cX12_takeClause 120 = .ok (.invokevirtual 118, 3) := by decide +kernel
theorem dX12_takeClause_123 : decode cX12_takeClause 123 = .ok (.goto 64, 3) := by decide +kernel
theorem dX12_takeClause_126 : decode cX12_takeClause 126 = .ok (.aload_n 0, 1) := by decide +kernel
theorem dX12_takeClause_127 : decode cX12_takeClause 127 = .ok (.iload_n 1, 1) := by decide +kernel
theorem dX12_takeClause_128 : decode cX12_takeClause 128 = .ok (.bipush 98, 2) := by decide +kernel
theorem dX12_takeClause_130 : decode cX12_takeClause 130 = .ok (.if_icmp .ne 7, 3) := by decide +kernel
theorem dX12_takeClause_133 : decode cX12_takeClause 133 = .ok (.iconst 1, 1) := by decide +kernel
theorem dX12_takeClause_134 : decode cX12_takeClause 134 = .ok (.goto 4, 3) := by decide +kernel
theorem dX12_takeClause_137 : decode cX12_takeClause 137 = .ok (.iconst 0, 1) := by decide +kernel
theorem dX12_takeClause_138 : decode cX12_takeClause 138 = .ok (.iconst 1, 1) := by decide +kernel
theorem dX12_takeClause_139 : decode cX12_takeClause 139 = .ok (.iload_n 2, 1) := by decide +kernel
theorem dX12_takeClause_140 : decode cX12_takeClause 140 = .ok (.invokevirtual 94, 3) := by decide +kernel
theorem dX12_takeClause_143 : decode cX12_takeClause 143 = .ok (.ifCond .eq 44, 3) := by decide +kernel
theorem dX12_takeClause_146 : decode cX12_takeClause 146 = .ok (.aload_n 0, 1) := by decide +kernel
theorem dX12_takeClause_147 : decode cX12_takeClause 147 = .ok (.aload_n 0, 1) := by decide +kernel
theorem dX12_takeClause_148 : decode cX12_takeClause 148 = .ok (.getfield 121, 3) := by decide +kernel
theorem dX12_takeClause_151 : decode cX12_takeClause 151 = .ok (.ifCond .ne 7, 3) := by decide +kernel
theorem dX12_takeClause_154 : decode cX12_takeClause 154 = .ok (.iconst 1, 1) := by decide +kernel
theorem dX12_takeClause_155 : decode cX12_takeClause 155 = .ok (.goto 4, 3) := by decide +kernel
theorem dX12_takeClause_158 : decode cX12_takeClause 158 = .ok (.iconst 0, 1) := by decide +kernel
theorem dX12_takeClause_159 : decode cX12_takeClause 159 = .ok (.iconst 3, 1) := by decide +kernel
theorem dX12_takeClause_160 : decode cX12_takeClause 160 = .ok (.iload_n 2, 1) := by decide +kernel
theorem dX12_takeClause_161 : decode cX12_takeClause 161 = .ok (.invokevirtual 94, 3) := by decide +kernel
theorem dX12_takeClause_164 : decode cX12_takeClause 164 = .ok (.ifCond .eq 23, 3) := by decide +kernel
theorem dX12_takeClause_167 : decode cX12_takeClause 167 = .ok (.aload_n 0, 1) := by decide +kernel
theorem dX12_takeClause_168 : decode cX12_takeClause 168 = .ok (.iconst 1, 1) := by decide +kernel
theorem dX12_takeClause_169 : decode cX12_takeClause 169 = .ok (.putfield 121, 3) := by decide +kernel
theorem dX12_takeClause_172 : decode cX12_takeClause 172 = .ok (.aload_n 0, 1) := by decide +kernel
theorem dX12_takeClause_173 : decode cX12_takeClause 173 = .ok (.aload_n 0, 1) := by decide +kernel
theorem dX12_takeClause_174 : decode cX12_takeClause 174 = .ok (.iconst 0, 1) := by decide +kernel
theorem dX12_takeClause_175 : decode cX12_takeClause 175 = .ok (.aload_n 0, 1) := by decide +kernel
theorem dX12_takeClause_176 : decode cX12_takeClause 176 = .ok (.getfield 99, 3) := by decide +kernel
theorem dX12_takeClause_179 : decode cX12_takeClause 179 = .ok (.iconst 1, 1) := by decide +kernel
theorem dX12_takeClause_180 : decode cX12_takeClause 180 = .ok (.isub, 1) := by decide +kernel
theorem dX12_takeClause_181 : decode cX12_takeClause 181 = .ok (.invokevirtual 102, 3) := by decide +kernel
theorem dX12_takeClause_184 : decode cX12_takeClause 184 = .ok (.putfield 125, 3) := by decide +kernel
theorem dX12_takeClause_187 : decode cX12_takeClause 187 = .ok (.return_, 1) := by decide +kernel
theorem dX12_street_0 : decode cX12_street 0 = .ok (.aload_n 0, 1) := by decide +kernel
theorem dX12_street_1 : decode cX12_street 1 = .ok (.iconst 0, 1) := by decide +kernel
theorem dX12_street_2 : decode cX12_street 2 = .ok (.putfield 77, 3) := by decide +kernel
theorem dX12_street_5 : decode cX12_street 5 = .ok (.aload_n 0, 1) := by decide +kernel
theorem dX12_street_6 : decode cX12_street 6 = .ok (.iconst 0, 1) := by decide +kernel
theorem dX12_street_7 : decode cX12_street 7 = .ok (.putfield 80, 3) := by decide +kernel
theorem dX12_street_10 : decode cX12_street 10 = .ok (.aload_n 0, 1) := by decide +kernel
theorem dX12_street_11 : decode cX12_street 11 = .ok (.iconst (-1), 1) := by decide +kernel
theorem dX12_street_12 : decode cX12_street 12 = .ok (.putfield 29, 3) := by decide +kernel
theorem dX12_street_15 : decode cX12_street 15 = .ok (.aload_n 0, 1) := by decide +kernel
theorem dX12_street_16 : decode cX12_street 16 = .ok (.iconst 0, 1) := by decide +kernel
theorem dX12_street_17 : decode cX12_street 17 = .ok (.putfield 99, 3) := by decide +kernel
theorem dX12_street_20 : decode cX12_street 20 = .ok (.aload_n 0, 1) := by decide +kernel
theorem dX12_street_21 : decode cX12_street 21 = .ok (.iconst 0, 1) := by decide +kernel
theorem dX12_street_22 : decode cX12_street 22 = .ok (.putfield 106, 3) := by decide +kernel
theorem dX12_street_25 : decode cX12_street 25 = .ok (.aload_n 0, 1) := by decide +kernel
theorem dX12_street_26 : decode cX12_street 26 = .ok (.iconst 0, 1) := by decide +kernel
theorem dX12_street_27 : decode cX12_street 27 = .ok (.putfield 109, 3) := by decide +kernel
theorem dX12_street_30 : decode cX12_street 30 = .ok (.aload_n 0, 1) := by decide +kernel
theorem dX12_street_31 : decode cX12_street 31 = .ok (.iconst 0, 1) := by decide +kernel
theorem dX12_street_32 : decode cX12_street 32 = .ok (.putfield 125, 3) := by decide +kernel
theorem dX12_street_35 : decode cX12_street 35 = .ok (.aload_n 0, 1) := by decide +kernel
theorem dX12_street_36 : decode cX12_street 36 = .ok (.iconst 0, 1) := by decide +kernel
theorem dX12_street_37 : decode cX12_street 37 = .ok (.putfield 121, 3) := by decide +kernel
theorem dX12_street_40 : decode cX12_street 40 = .ok (.aload_n 0, 1) := by decide +kernel
theorem dX12_street_41 : decode cX12_street 41 = .ok (.getfield 80, 3) := by decide +kernel
theorem dX12_street_44 : decode cX12_street 44 = .ok (.ifCond .ne 60, 3) := by decide +kernel
theorem dX12_street_47 : decode cX12_street 47 = .ok (.aload_n 0, 1) := by decide +kernel
theorem dX12_street_48 : decode cX12_street 48 = .ok (.invokevirtual 83, 3) := by decide +kernel
theorem dX12_street_51 : decode cX12_street 51 = .ok (.ifCond .lt 53, 3) := by decide +kernel
theorem dX12_street_54 : decode cX12_street 54 = .ok (.aload_n 0, 1) := by decide +kernel
theorem dX12_street_55 : decode cX12_street 55 = .ok (.invokevirtual 128, 3) := by decide +kernel
theorem dX12_street_58 : decode cX12_street 58 = .ok (.aload_n 0, 1) := by decide +kernel
theorem dX12_street_59 : decode cX12_street 59 = .ok (.getfield 80, 3) := by decide +kernel
theorem dX12_street_62 : decode cX12_street 62 = .ok (.ifCond .ne (-22), 3) := by decide +kernel
theorem dX12_street_65 : decode cX12_street 65 = .ok (.aload_n 0, 1) := by decide +kernel
theorem dX12_street_66 : decode cX12_street 66 = .ok (.aload_n 0, 1) := by decide +kernel
theorem dX12_street_67 : decode cX12_street 67 = .ok (.invokevirtual 83, 3) := by decide +kernel
theorem dX12_street_70 : decode cX12_street 70 = .ok (.bipush 59, 2) := by decide +kernel
theorem dX12_street_72 : decode cX12_street 72 = .ok (.if_icmp .ne 7, 3) := by decide +kernel
theorem dX12_street_75 : decode cX12_street 75 = .ok (.iconst 1, 1) := by decide +kernel
theorem dX12_street_76 : decode cX12_street 76 = .ok (.goto 4, 3) := by decide +kernel
theorem dX12_street_79 : decode cX12_street 79 = .ok (.iconst 0, 1) := by decide +kernel
theorem dX12_street_80 : decode cX12_street 80 = .ok (.iconst 1, 1) := by decide +kernel
theorem dX12_street_81 : decode cX12_street 81 = .ok (.aload_n 0, 1) := by decide +kernel
theorem dX12_street_82 : decode cX12_street 82 = .ok (.getfield 77, 3) := by decide +kernel
theorem dX12_street_85 : decode cX12_street 85 = .ok (.invokevirtual 94, 3) := by decide +kernel
theorem dX12_street_88 : decode cX12_street 88 = .ok (.ifCond .eq (-48), 3) := by decide +kernel
theorem dX12_street_91 : decode cX12_street 91 = .ok (.aload_n 0, 1) := by decide +kernel
theorem dX12_street_92 : decode cX12_street 92 = .ok (.dup, 1) := by decide +kernel
theorem dX12_street_93 : decode cX12_street 93 = .ok (.getfield 77, 3) := by decide +kernel
theorem dX12_street_96 : decode cX12_street 96 = .ok (.iconst 1, 1) := by decide +kernel
theorem dX12_street_97 : decode cX12_street 97 = .ok (.iadd, 1) := by decide +kernel
theorem dX12_street_98 : decode cX12_street 98 = .ok (.putfield 77, 3) := by decide +kernel
theorem dX12_street_101 : decode cX12_street 101 = .ok (.goto (-61), 3) := by decide +kernel
theorem dX12_street_104 : decode cX12_street 104 = .ok (.aload_n 0, 1) := by decide +kernel
theorem dX12_street_105 : decode cX12_street 105 = .ok (.iconst 0, 1) := by decide +kernel
theorem dX12_street_106 : decode cX12_street 106 = .ok (.putfield 73, 3) := by decide +kernel
theorem dX12_street_109 : decode cX12_street 109 = .ok (.aload_n 0, 1) := by decide +kernel
theorem dX12_street_110 : decode cX12_street 110 = .ok (.getfield 80, 3) := by decide +kernel
theorem dX12_street_113 : decode cX12_street 113 = .ok (.ifCond .le 11, 3) := by decide +kernel
theorem dX12_street_116 : decode cX12_street 116 = .ok (.bipush (-10), 2) := by decide +kernel
theorem dX12_street_118 : decode cX12_street 118 = .ok (.aload_n 0, 1) := by decide +kernel
theorem dX12_street_119 : decode cX12_street 119 = .ok (.getfield 80, 3) := by decide +kernel
theorem dX12_street_122 : decode cX12_street 122 = .ok (.isub, 1) := by decide +kernel
theorem dX12_street_123 : decode cX12_street 123 = .ok (.ireturn, 1) := by decide +kernel
theorem dX12_street_124 : decode cX12_street 124 = .ok (.aload_n 0, 1) := by decide +kernel
theorem dX12_street_125 : decode cX12_street 125 = .ok (.aload_n 0, 1) := by decide +kernel
theorem dX12_street_126 : decode cX12_street 126 = .ok (.getfield 99, 3) := by decide +kernel
theorem dX12_street_129 : decode cX12_street 129 = .ok (.putfield 131, 3) := by decide +kernel
theorem dX12_street_132 : decode cX12_street 132 = .ok (.aload_n 0, 1) := by decide +kernel
theorem dX12_street_133 : decode cX12_street 133 = .ok (.aload_n 0, 1) := by decide +kernel
theorem dX12_street_134 : decode cX12_street 134 = .ok (.getfield 106, 3) := by decide +kernel
theorem dX12_street_137 : decode cX12_street 137 = .ok (.putfield 134, 3) := by decide +kernel
theorem dX12_street_140 : decode cX12_street 140 = .ok (.aload_n 0, 1) := by decide +kernel
theorem dX12_street_141 : decode cX12_street 141 = .ok (.aload_n 0, 1) := by decide +kernel
theorem dX12_street_142 : decode cX12_street 142 = .ok (.getfield 109, 3) := by decide +kernel
theorem dX12_street_145 : decode cX12_street 145 = .ok (.putfield 137, 3) := by decide +kernel
theorem dX12_street_148 : decode cX12_street 148 = .ok (.iconst 0, 1) := by decide +kernel
theorem dX12_street_149 : decode cX12_street 149 = .ok (.istore_n 1, 1) := by decide +kernel
theorem dX12_street_150 : decode cX12_street 150 = .ok (.iload_n 1, 1) := by decide +kernel
theorem dX12_street_151 : decode cX12_street 151 = .ok (.bipush 32, 2) := by decide +kernel
theorem dX12_street_153 : decode cX12_street 153 = .ok (.if_icmp .ge 24, 3) := by decide +kernel
theorem dX12_street_156 : decode cX12_street 156 = .ok (.aload_n 0, 1) := by decide +kernel
theorem dX12_street_157 : decode cX12_street 157 = .ok (.getfield 17, 3) := by decide +kernel
theorem dX12_street_160 : decode cX12_street 160 = .ok (.iload_n 1, 1) := by decide +kernel
theorem dX12_street_161 : decode cX12_street 161 = .ok (.aload_n 0, 1) := by decide +kernel
theorem dX12_street_162 : decode cX12_street 162 = .ok (.getfield 17, 3) := by decide +kernel
theorem dX12_street_165 : decode cX12_street 165 = .ok (.bipush 32, 2) := by decide +kernel
theorem dX12_street_167 : decode cX12_street 167 = .ok (.iload_n 1, 1) := by decide +kernel
theorem dX12_street_168 : decode cX12_street 168 = .ok (.iadd, 1) := by decide +kernel
theorem dX12_street_169 : decode cX12_street 169 = .ok (.iaload, 1) := by decide +kernel
theorem dX12_street_170 : decode cX12_street 170 = .ok (.iastore, 1) := by decide +kernel
theorem dX12_street_171 : decode cX12_street 171 = .ok (.iinc 1 1, 3) := by decide +kernel
theorem dX12_street_174 : decode cX12_street 174 = .ok (.goto (-24), 3) := by decide +kernel
theorem dX12_street_177 : decode cX12_street 177 = .ok (.iconst 0, 1) := by decide +kernel
theorem dX12_street_178 : decode cX12_street 178 = .ok (.istore_n 1, 1) := by decide +kernel
theorem dX12_street_179 : decode cX12_street 179 = .ok (.iload_n 1, 1) := by decide +kernel
theorem dX12_street_180 : decode cX12_street 180 = .ok (.bipush 8, 2) := by decide +kernel
theorem dX12_street_182 : decode cX12_street 182 = .ok (.if_icmp .ge 24, 3) := by decide +kernel
theorem dX12_street_185 : decode cX12_street 185 = .ok (.aload_n 0, 1) := by decide +kernel
theorem dX12_street_186 : decode cX12_street 186 = .ok (.getfield 20, 3) := by decide +kernel
theorem dX12_street_189 : decode cX12_street 189 = .ok (.iload_n 1, 1) := by decide +kernel
theorem dX12_street_190 : decode cX12_street 190 = .ok (.aload_n 0, 1) := by decide +kernel
theorem dX12_street_191 : decode cX12_street 191 = .ok (.getfield 20, 3) := by decide +kernel
theorem dX12_street_194 : decode cX12_street 194 = .ok (.bipush 8, 2) := by decide +kernel
theorem dX12_street_196 : decode cX12_street 196 = .ok (.iload_n 1, 1) := by decide +kernel
theorem dX12_street_197 : decode cX12_street 197 = .ok (.iadd, 1) := by decide +kernel
theorem dX12_street_198 : decode cX12_street 198 = .ok (.iaload, 1) := by decide +kernel
theorem dX12_street_199 : decode cX12_street 199 = .ok (.iastore, 1) := by decide +kernel
theorem dX12_street_200 : decode cX12_street 200 = .ok (.iinc 1 1, 3) := by decide +kernel
theorem dX12_street_203 : decode cX12_street 203 = .ok (.goto (-24), 3) := by decide +kernel
theorem dX12_street_206 : decode cX12_street 206 = .ok (.iconst 0, 1) := by decide +kernel
theorem dX12_street_207 : decode cX12_street 207 = .ok (.istore_n 1, 1) := by decide +kernel
theorem dX12_street_208 : decode cX12_street 208 = .ok (.iload_n 1, 1) := by decide +kernel
theorem dX12_street_209 : decode cX12_street 209 = .ok (.bipush 16, 2) := by decide +kernel
theorem dX12_street_211 : decode cX12_street 211 = .ok (.if_icmp .ge 24, 3) := by decide +kernel
theorem dX12_street_214 : decode cX12_street 214 = .ok (.aload_n 0, 1) := by decide +kernel
theorem dX12_street_215 : decode cX12_street 215 = .ok (.getfield 23, 3) := by decide +kernel
theorem dX12_street_218 : decode cX12_street 218 = .ok (.iload_n 1, 1) := by decide +kernel
theorem dX12_street_219 : decode cX12_street 219 = .ok (.aload_n 0, 1) := by decide +kernel
theorem dX12_street_220 : decode cX12_street 220 = .ok (.getfield 23, 3) := by decide +kernel
theorem dX12_street_223 : decode cX12_street 223 = .ok (.bipush 16, 2) := by decide +kernel
theorem dX12_street_225 : decode cX12_street 225 = .ok (.iload_n 1, 1) := by decide +kernel
theorem dX12_street_226 : decode cX12_street 226 = .ok (.iadd, 1) := by decide +kernel
theorem dX12_street_227 : decode cX12_street 227 = .ok (.iaload, 1) := by decide +kernel
theorem dX12_street_228 : decode cX12_street 228 = .ok (.iastore, 1) := by decide +kernel
theorem dX12_street_229 : decode cX12_street 229 = .ok (.iinc 1 1, 3) := by decide +kernel
theorem dX12_street_232 : decode cX12_street 232 = .ok (.goto (-24), 3) := by decide +kernel
theorem dX12_street_235 : decode cX12_street 235 = .ok (.iconst 0, 1) := by decide +kernel
theorem dX12_street_236 : decode cX12_street 236 = .ok (.istore_n 1, 1) := by decide +kernel
theorem dX12_street_237 : decode cX12_street 237 = .ok (.iload_n 1, 1) := by decide +kernel
theorem dX12_street_238 : decode cX12_street 238 = .ok (.iconst 4, 1) := by decide +kernel
theorem dX12_street_239 : decode cX12_street 239 = .ok (.if_icmp .ge 27, 3) := by decide +kernel
theorem dX12_street_242 : decode cX12_street 242 = .ok (.aload_n 0, 1) := by decide +kernel
theorem dX12_street_243 : decode cX12_street 243 = .ok (.getfield 7, 3) := by decide +kernel
theorem dX12_street_246 : decode cX12_street 246 = .ok (.iconst 4, 1) := by decide +kernel
theorem dX12_street_247 : decode cX12_street 247 = .ok (.iload_n 1, 1) := by decide +kernel
theorem dX12_street_248 : decode cX12_street 248 = .ok (.iadd, 1) := by decide +kernel
theorem dX12_street_249 : decode cX12_street 249 = .ok (.aload_n 0, 1) := by decide +kernel
theorem dX12_street_250 : decode cX12_street 250 = .ok (.getfield 20, 3) := by decide +kernel
theorem dX12_street_253 : decode cX12_street 253 = .ok (.iconst 2, 1) := by decide +kernel
theorem dX12_street_254 : decode cX12_street 254 = .ok (.iload_n 1, 1) := by decide +kernel
theorem dX12_street_255 : decode cX12_street 255 = .ok (.imul, 1) := by decide +kernel
theorem dX12_street_256 : decode cX12_street 256 = .ok (.iconst 1, 1) := by decide +kernel
theorem dX12_street_257 : decode cX12_street 257 = .ok (.iadd, 1) := by decide +kernel
theorem dX12_street_258 : decode cX12_street 258 = .ok (.iaload, 1) := by decide +kernel
theorem dX12_street_259 : decode cX12_street 259 = .ok (.iastore, 1) := by decide +kernel
theorem dX12_street_260 : decode cX12_street 260 = .ok (.iinc 1 1, 3) := by decide +kernel
theorem dX12_street_263 : decode cX12_street 263 = .ok (.goto (-26), 3) := by decide +kernel
theorem dX12_street_266 : decode cX12_street 266 = .ok (.aload_n 0, 1) := by decide +kernel
theorem dX12_street_267 : decode cX12_street 267 = .ok (.getfield 7, 3) := by decide +kernel
theorem dX12_street_270 : decode cX12_street 270 = .ok (.iconst 0, 1) := by decide +kernel
theorem dX12_street_271 : decode cX12_street 271 = .ok (.iconst 0, 1) := by decide +kernel
theorem dX12_street_272 : decode cX12_street 272 = .ok (.iastore, 1) := by decide +kernel
theorem dX12_street_273 : decode cX12_street 273 = .ok (.aload_n 0, 1) := by decide +kernel
theorem dX12_street_274 : decode cX12_street 274 = .ok (.getfield 7, 3) := by decide +kernel
theorem dX12_street_277 : decode cX12_street 277 = .ok (.iconst 1, 1) := by decide +kernel
theorem dX12_street_278 : decode cX12_street 278 = .ok (.iconst 0, 1) := by decide +kernel
theorem dX12_street_279 : decode cX12_street 279 = .ok (.iastore, 1) := by decide +kernel
theorem dX12_street_280 : decode cX12_street 280 = .ok (.aload_n 0, 1) := by decide +kernel
theorem dX12_street_281 : decode cX12_street 281 = .ok (.getfield 7, 3) := by decide +kernel
theorem dX12_street_284 : decode cX12_street 284 = .ok (.iconst 2, 1) := by decide +kernel
theorem dX12_street_285 : decode cX12_street 285 = .ok (.aload_n 0, 1) := by decide +kernel
theorem dX12_street_286 : decode cX12_street 286 = .ok (.getfield 125, 3) := by decide +kernel
theorem dX12_street_289 : decode cX12_street 289 = .ok (.iastore, 1) := by decide +kernel
theorem dX12_street_290 : decode cX12_street 290 = .ok (.aload_n 0, 1) := by decide +kernel
theorem dX12_street_291 : decode cX12_street 291 = .ok (.getfield 7, 3) := by decide +kernel
theorem dX12_street_294 : decode cX12_street 294 = .ok (.iconst 3, 1) := by decide +kernel
theorem dX12_street_295 : decode cX12_street 295 = .ok (.iconst 0, 1) := by decide +kernel
theorem dX12_street_296 : decode cX12_street 296 = .ok (.iastore, 1) := by decide +kernel
theorem dX12_street_297 : decode cX12_street 297 = .ok (.aload_n 0, 1) := by decide +kernel
theorem dX12_street_298 : decode cX12_street 298 = .ok (.iconst 0, 1) := by decide +kernel
theorem dX12_street_299 : decode cX12_street 299 = .ok (.putfield 140, 3) := by decide +kernel
theorem dX12_street_302 : decode cX12_street 302 = .ok (.aload_n 0, 1) := by decide +kernel
theorem dX12_street_303 : decode cX12_street 303 = .ok (.iconst 0, 1) := by decide +kernel
theorem dX12_street_304 : decode cX12_street 304 = .ok (.putfield 143, 3) := by decide +kernel
theorem dX12_street_307 : decode cX12_street 307 = .ok (.aload_n 0, 1) := by decide +kernel
theorem dX12_street_308 : decode cX12_street 308 = .ok (.iconst 0, 1) := by decide +kernel
theorem dX12_street_309 : decode cX12_street 309 = .ok (.putfield 146, 3) := by decide +kernel
theorem dX12_street_312 : decode cX12_street 312 = .ok (.aload_n 0, 1) := by decide +kernel
theorem dX12_street_313 : decode cX12_street 313 = .ok (.iconst 0, 1) := by decide +kernel
theorem dX12_street_314 : decode cX12_street 314 = .ok (.putfield 149, 3) := by decide +kernel
theorem dX12_street_317 : decode cX12_street 317 = .ok (.aload_n 0, 1) := by decide +kernel
theorem dX12_street_318 : decode cX12_street 318 = .ok (.getfield 13, 3) := by decide +kernel
theorem dX12_street_321 : decode cX12_street 321 = .ok (.iconst 0, 1) := by decide +kernel
theorem dX12_street_322 : decode cX12_street 322 = .ok (.iconst 0, 1) := by decide +kernel
theorem dX12_street_323 : decode cX12_street 323 = .ok (.bastore, 1) := by decide +kernel
theorem dX12_street_324 : decode cX12_street 324 = .ok (.aload_n 0, 1) := by decide +kernel
theorem dX12_street_325 : decode cX12_street 325 = .ok (.getfield 13, 3) := by decide +kernel
theorem dX12_street_328 : decode cX12_street 328 = .ok (.iconst 1, 1) := by decide +kernel
theorem dX12_street_329 : decode cX12_street 329 = .ok (.iconst 0, 1) := by decide +kernel
theorem dX12_street_330 : decode cX12_street 330 = .ok (.bastore, 1) := by decide +kernel
theorem dX12_street_331 : decode cX12_street 331 = .ok (.aload_n 0, 1) := by decide +kernel
theorem dX12_street_332 : decode cX12_street 332 = .ok (.iconst 1, 1) := by decide +kernel
theorem dX12_street_333 : decode cX12_street 333 = .ok (.putfield 33, 3) := by decide +kernel
theorem dX12_street_336 : decode cX12_street 336 = .ok (.iconst 0, 1) := by decide +kernel
theorem dX12_street_337 : decode cX12_street 337 = .ok (.istore_n 1, 1) := by decide +kernel
theorem dX12_street_338 : decode cX12_street 338 = .ok (.iload_n 1, 1) := by decide +kernel
theorem dX12_street_339 : decode cX12_street 339 = .ok (.aload_n 0, 1) := by decide +kernel
theorem dX12_street_340 : decode cX12_street 340 = .ok (.getfield 131, 3) := by decide +kernel
theorem dX12_street_343 : decode cX12_street 343 = .ok (.if_icmp .ge 46, 3) := by decide +kernel
theorem dX12_street_346 : decode cX12_street 346 = .ok (.aload_n 0, 1) := by decide +kernel
theorem dX12_street_347 : decode cX12_street 347 = .ok (.aload_n 0, 1) := by decide +kernel
theorem dX12_street_348 : decode cX12_street 348 = .ok (.getfield 33, 3) := by decide +kernel
theorem dX12_street_351 : decode cX12_street 351 = .ok (.aload_n 0, 1) := by decide +kernel
theorem dX12_street_352 : decode cX12_street 352 = .ok (.getfield 33, 3) := by decide +kernel
theorem dX12_street_355 : decode cX12_street 355 = .ok (.aload_n 0, 1) := by decide +kernel
theorem dX12_street_356 : decode cX12_street 356 = .ok (.getfield 17, 3) := by decide +kernel
theorem dX12_street_359 : decode cX12_street 359 = .ok (.iconst 4, 1) := by decide +kernel
theorem dX12_street_360 : decode cX12_street 360 = .ok (.iload_n 1, 1) := by decide +kernel
theorem dX12_street_361 : decode cX12_street 361 = .ok (.imul, 1) := by decide +kernel
theorem dX12_street_362 : decode cX12_street 362 = .ok (.iconst 1, 1) := by decide +kernel
theorem dX12_street_363 : decode cX12_street 363 = .ok (.iadd, 1) := by decide +kernel
theorem dX12_street_364 : decode cX12_street 364 = .ok (.iaload, 1) := by decide +kernel
theorem dX12_street_365 : decode cX12_street 365 = .ok (.invokestatic 152, 3) := by decide +kernel
theorem dX12_street_368 : decode cX12_street 368 = .ok (.idiv, 1) := by decide +kernel
theorem dX12_street_369 : decode cX12_street 369 = .ok (.aload_n 0, 1) := by decide +kernel
theorem dX12_street_370 : decode cX12_street 370 = .ok (.getfield 17, 3) := by decide +kernel
theorem dX12_street_373 : decode cX12_street 373 = .ok (.iconst 4, 1) := by decide +kernel
theorem dX12_street_374 : decode cX12_street 374 = .ok (.iload_n 1, 1) := by decide +kernel
theorem dX12_street_375 : decode cX12_street 375 = .ok (.imul, 1) := by decide +kernel
theorem dX12_street_376 : decode cX12_street 376 = .ok (.iconst 1, 1) := by decide +kernel
theorem dX12_street_377 : decode cX12_street 377 = .ok (.iadd, 1) := by decide +kernel
theorem dX12_street_378 : decode cX12_street 378 = .ok (.iaload, 1) := by decide +kernel
theorem dX12_street_379 : decode cX12_street 379 = .ok (.imul, 1) := by decide +kernel
theorem dX12_street_380 : decode cX12_street 380 = .ok (.putfield 33, 3) := by decide +kernel
theorem dX12_street_383 : decode cX12_street 383 = .ok (.iinc 1 1, 3) := by decide +kernel
theorem dX12_street_386 : decode cX12_street 386 = .ok (.goto (-48), 3) := by decide +kernel
theorem dX12_street_389 : decode cX12_street 389 = .ok (.aload_n 0, 1) := by decide +kernel
theorem dX12_street_390 : decode cX12_street 390 = .ok (.getfield 131, 3) := by decide +kernel
theorem dX12_street_393 : decode cX12_street 393 = .ok (.ireturn, 1) := by decide +kernel
theorem dX12_fault_0 : decode cX12_fault 0 = .ok (.aload_n 0, 1) := by decide +kernel
theorem dX12_fault_1 : decode cX12_fault 1 = .ok (.getfield 29, 3) := by decide +kernel
theorem dX12_fault_4 : decode cX12_fault 4 = .ok (.ireturn, 1) := by decide +kernel
theorem dX12_isField_0 : decode cX12_isField 0 = .ok (.iload_n 1, 1) := by decide +kernel
theorem dX12_isField_1 : decode cX12_isField 1 = .ok (.i2l, 1) := by decide +kernel
theorem dX12_isField_2 : decode cX12_isField 2 = .ok (.lconst 0, 1) := by decide +kernel
theorem dX12_isField_3 : decode cX12_isField 3 = .ok (.aload_n 0, 1) := by decide +kernel
theorem dX12_isField_4 : decode cX12_isField 4 = .ok (.getfield 131, 3) := by decide +kernel
theorem dX12_isField_7 : decode cX12_isField 7 = .ok (.iconst 1, 1) := by decide +kernel
theorem dX12_isField_8 : decode cX12_isField 8 = .ok (.isub, 1) := by decide +kernel
theorem dX12_isField_9 : decode cX12_isField 9 = .ok (.i2l, 1) := by decide +kernel
theorem dX12_isField_10 : decode cX12_isField 10 = .ok (.invokestatic 68, 3) := by decide +kernel
theorem dX12_isField_13 : decode cX12_isField 13 = .ok (.ireturn, 1) := by decide +kernel
theorem dX12_heightBy_0 : decode cX12_heightBy 0 = .ok (.iload 4, 2) := by decide +kernel
theorem dX12_heightBy_2 : decode cX12_heightBy 2 = .ok (.iload_n 2, 1) := by decide +kernel
theorem dX12_heightBy_3 : decode cX12_heightBy 3 = .ok (.iadd, 1) := by decide +kernel
theorem dX12_heightBy_4 : decode cX12_heightBy 4 = .ok (.iload_n 1, 1) := by decide +kernel
theorem dX12_heightBy_5 : decode cX12_heightBy 5 = .ok (.irem, 1) := by decide +kernel
theorem dX12_heightBy_6 : decode cX12_heightBy 6 = .ok (.istore 5, 2) := by decide +kernel
theorem dX12_heightBy_8 : decode cX12_heightBy 8 = .ok (.iload_n 0, 1) := by decide +kernel
theorem dX12_heightBy_9 : decode cX12_heightBy 9 = .ok (.iload_n 3, 1) := by decide +kernel
theorem dX12_heightBy_10 : decode cX12_heightBy 10 = .ok (.iload 5, 2) := by decide +kernel
theorem dX12_heightBy_12 : decode cX12_heightBy 12 = .ok (.iload_n 1, 1) := by decide +kernel
theorem dX12_heightBy_13 : decode cX12_heightBy 13 = .ok (.iload 5, 2) := by decide +kernel
theorem dX12_heightBy_15 : decode cX12_heightBy 15 = .ok (.isub, 1) := by decide +kernel
theorem dX12_heightBy_16 : decode cX12_heightBy 16 = .ok (.if_icmp .ge 8, 3) := by decide +kernel
theorem dX12_heightBy_19 : decode cX12_heightBy 19 = .ok (.iload 5, 2) := by decide +kernel
theorem dX12_heightBy_21 : decode cX12_heightBy 21 = .ok (.goto 7, 3) := by decide +kernel
theorem dX12_heightBy_24 : decode cX12_heightBy 24 = .ok (.iload_n 1, 1) := by decide +kernel
theorem dX12_heightBy_25 : decode cX12_heightBy 25 = .ok (.iload 5, 2) := by decide +kernel
theorem dX12_heightBy_27 : decode cX12_heightBy 27 = .ok (.isub, 1) := by decide +kernel
theorem dX12_heightBy_28 : decode cX12_heightBy 28 = .ok (.imul, 1) := by decide +kernel
theorem dX12_heightBy_29 : decode cX12_heightBy 29 = .ok (.iadd, 1) := by decide +kernel
theorem dX12_heightBy_30 : decode cX12_heightBy 30 = .ok (.ireturn, 1) := by decide +kernel
theorem dX12_heightOf_0 : decode cX12_heightOf 0 = .ok (.aload_n 0, 1) := by decide +kernel
theorem dX12_heightOf_1 : decode cX12_heightOf 1 = .ok (.getfield 17, 3) := by decide +kernel
theorem dX12_heightOf_4 : decode cX12_heightOf 4 = .ok (.iconst 4, 1) := by decide +kernel
theorem dX12_heightOf_5 : decode cX12_heightOf 5 = .ok (.iload_n 1, 1) := by decide +kernel
theorem dX12_heightOf_6 : decode cX12_heightOf 6 = .ok (.imul, 1) := by decide +kernel
theorem dX12_heightOf_7 : decode cX12_heightOf 7 = .ok (.iaload, 1) := by decide +kernel
theorem dX12_heightOf_8 : decode cX12_heightOf 8 = .ok (.aload_n 0, 1) := by decide +kernel
theorem dX12_heightOf_9 : decode cX12_heightOf 9 = .ok (.getfield 17, 3) := by decide +kernel
theorem dX12_heightOf_12 : decode cX12_heightOf 12 = .ok (.iconst 4, 1) := by decide +kernel
theorem dX12_heightOf_13 : decode cX12_heightOf 13 = .ok (.iload_n 1, 1) := by decide +kernel
theorem dX12_heightOf_14 : decode cX12_heightOf 14 = .ok (.imul, 1) := by decide +kernel
theorem dX12_heightOf_15 : decode cX12_heightOf 15 = .ok (.iconst 1, 1) := by decide +kernel
theorem dX12_heightOf_16 : decode cX12_heightOf 16 = .ok (.iadd, 1) := by decide +kernel
theorem dX12_heightOf_17 : decode cX12_heightOf 17 = .ok (.iaload, 1) := by decide +kernel
theorem dX12_heightOf_18 : decode cX12_heightOf 18 = .ok (.aload_n 0, 1) := by decide +kernel
theorem dX12_heightOf_19 : decode cX12_heightOf 19 = .ok (.getfield 17, 3) := by decide +kernel
theorem dX12_heightOf_22 : decode cX12_heightOf 22 = .ok (.iconst 4, 1) := by decide +kernel
theorem dX12_heightOf_23 : decode cX12_heightOf 23 = .ok (.iload_n 1, 1) := by decide +kernel
theorem dX12_heightOf_24 : decode cX12_heightOf 24 = .ok (.imul, 1) := by decide +kernel
theorem dX12_heightOf_25 : decode cX12_heightOf 25 = .ok (.iconst 2, 1) := by decide +kernel
theorem dX12_heightOf_26 : decode cX12_heightOf 26 = .ok (.iadd, 1) := by decide +kernel
theorem dX12_heightOf_27 : decode cX12_heightOf 27 = .ok (.iaload, 1) := by decide +kernel
theorem dX12_heightOf_28 : decode cX12_heightOf 28 = .ok (.aload_n 0, 1) := by decide +kernel
theorem dX12_heightOf_29 : decode cX12_heightOf 29 = .ok (.getfield 17, 3) := by decide +kernel
theorem dX12_heightOf_32 : decode cX12_heightOf 32 = .ok (.iconst 4, 1) := by decide +kernel
theorem dX12_heightOf_33 : decode cX12_heightOf 33 = .ok (.iload_n 1, 1) := by decide +kernel
theorem dX12_heightOf_34 : decode cX12_heightOf 34 = .ok (.imul, 1) := by decide +kernel
theorem dX12_heightOf_35 : decode cX12_heightOf 35 = .ok (.iconst 3, 1) := by decide +kernel
theorem dX12_heightOf_36 : decode cX12_heightOf 36 = .ok (.iadd, 1) := by decide +kernel
theorem dX12_heightOf_37 : decode cX12_heightOf 37 = .ok (.iaload, 1) := by decide +kernel
theorem dX12_heightOf_38 : decode cX12_heightOf 38 = .ok (.iload_n 2, 1) := by decide +kernel
theorem dX12_heightOf_39 : decode cX12_heightOf 39 = .ok (.invokestatic 155, 3) := by decide +kernel
theorem dX12_heightOf_42 : decode cX12_heightOf 42 = .ok (.ireturn, 1) := by decide +kernel
theorem dX12_leanOf_0 : decode cX12_leanOf 0 = .ok (.iload_n 1, 1) := by decide +kernel
theorem dX12_leanOf_1 : decode cX12_leanOf 1 = .ok (.iconst 1, 1) := by decide +kernel
theorem dX12_leanOf_2 : decode cX12_leanOf 2 = .ok (.iadd, 1) := by decide +kernel
theorem dX12_leanOf_3 : decode cX12_leanOf 3 = .ok (.aload_n 0, 1) := by decide +kernel
theorem dX12_leanOf_4 : decode cX12_leanOf 4 = .ok (.getfield 131, 3) := by decide +kernel
theorem dX12_leanOf_7 : decode cX12_leanOf 7 = .ok (.if_icmp .ge 21, 3) := by decide +kernel
theorem dX12_leanOf_10 : decode cX12_leanOf 10 = .ok (.aload_n 0, 1) := by decide +kernel
theorem dX12_leanOf_11 : decode cX12_leanOf 11 = .ok (.iload_n 1, 1) := by decide +kernel
theorem dX12_leanOf_12 : decode cX12_leanOf 12 = .ok (.iconst 1, 1) := by decide +kernel
theorem dX12_leanOf_13 : decode cX12_leanOf 13 = .ok (.iadd, 1) := by decide +kernel
theorem dX12_leanOf_14 : decode cX12_leanOf 14 = .ok (.iload_n 2, 1) := by decide +kernel
theorem dX12_leanOf_15 : decode cX12_leanOf 15 = .ok (.invokevirtual 159, 3) := by decide +kernel
theorem dX12_leanOf_18 : decode cX12_leanOf 18 = .ok (.aload_n 0, 1) := by decide +kernel
theorem dX12_leanOf_19 : decode cX12_leanOf 19 = .ok (.iload_n 1, 1) := by decide +kernel
theorem dX12_leanOf_20 : decode cX12_leanOf 20 = .ok (.iload_n 2, 1) := by decide +kernel
theorem dX12_leanOf_21 : decode cX12_leanOf 21 = .ok (.invokevirtual 159, 3) := by decide +kernel
theorem dX12_leanOf_24 : decode cX12_leanOf 24 = .ok (.isub, 1) := by decide +kernel
theorem dX12_leanOf_25 : decode cX12_leanOf 25 = .ok (.goto 4, 3) := by decide +kernel
theorem dX12_leanOf_28 : decode cX12_leanOf 28 = .ok (.iconst 0, 1) := by decide +kernel
theorem dX12_leanOf_29 : decode cX12_leanOf 29 = .ok (.ireturn, 1) := by decide +kernel
theorem dX12_size_0 : decode cX12_size 0 = .ok (.iload_n 0, 1) := by decide +kernel
theorem dX12_size_1 : decode cX12_size 1 = .ok (.ifCond .ge 8, 3) := by decide +kernel
theorem dX12_size_4 : decode cX12_size 4 = .ok (.iload_n 0, 1) := by decide +kernel
theorem dX12_size_5 : decode cX12_size 5 = .ok (.ineg, 1) := by decide +kernel
theorem dX12_size_6 : decode cX12_size 6 = .ok (.goto 4, 3) := by decide +kernel
theorem dX12_size_9 : decode cX12_size 9 = .ok (.iload_n 0, 1) := by decide +kernel
theorem dX12_size_10 : decode cX12_size 10 = .ok (.ireturn, 1) := by decide +kernel
theorem dX12_isSeamOpen_0 : decode cX12_isSeamOpen 0 = .ok (.aload_n 0, 1) := by decide +kernel
theorem dX12_isSeamOpen_1 : decode cX12_isSeamOpen 1 = .ok (.getfield 23, 3) := by decide +kernel
theorem dX12_isSeamOpen_4 : decode cX12_isSeamOpen 4 = .ok (.iconst 4, 1) := by decide +kernel
theorem dX12_isSeamOpen_5 : decode cX12_isSeamOpen 5 = .ok (.iload_n 1, 1) := by decide +kernel
theorem dX12_isSeamOpen_6 : decode cX12_isSeamOpen 6 = .ok (.imul, 1) := by decide +kernel
theorem dX12_isSeamOpen_7 : decode cX12_isSeamOpen 7 = .ok (.iconst 1, 1) := by decide +kernel
theorem dX12_isSeamOpen_8 : decode cX12_isSeamOpen 8 = .ok (.iadd, 1) := by decide +kernel
theorem dX12_isSeamOpen_9 : decode cX12_isSeamOpen 9 = .ok (.iaload, 1) := by decide +kernel
theorem dX12_isSeamOpen_10 : decode cX12_isSeamOpen 10 = .ok (.istore_n 3, 1) := by decide +kernel
theorem dX12_isSeamOpen_11 : decode cX12_isSeamOpen 11 = .ok (.iload_n 2, 1) := by decide +kernel
theorem dX12_isSeamOpen_12 : decode cX12_isSeamOpen 12 = .ok (.aload_n 0, 1) := by decide +kernel
theorem dX12_isSeamOpen_13 : decode cX12_isSeamOpen 13 = .ok (.getfield 23, 3) := by decide +kernel
theorem dX12_isSeamOpen_16 : decode cX12_isSeamOpen 16 = .ok (.iconst 4, 1) := by decide +kernel
theorem dX12_isSeamOpen_17 : decode cX12_isSeamOpen 17 = .ok (.iload_n 1, 1) := by decide +kernel
theorem dX12_isSeamOpen_18 : decode cX12_isSeamOpen 18 = .ok (.imul, 1) := by decide +kernel
theorem dX12_isSeamOpen_19 : decode cX12_isSeamOpen 19 = .ok (.iconst 2, 1) := by decide +kernel
theorem dX12_isSeamOpen_20 : decode cX12_isSeamOpen 20 = .ok (.iadd, 1) := by decide +kernel
theorem dX12_isSeamOpen_21 : decode cX12_isSeamOpen 21 = .ok (.iaload, 1) := by decide +kernel
theorem dX12_isSeamOpen_22 : decode cX12_isSeamOpen 22 = .ok (.isub, 1) := by decide +kernel
theorem dX12_isSeamOpen_23 : decode cX12_isSeamOpen 23 = .ok (.iload_n 3, 1) := by decide +kernel
theorem dX12_isSeamOpen_24 : decode cX12_isSeamOpen 24 = .ok (.irem, 1) := by decide +kernel
theorem dX12_isSeamOpen_25 : decode cX12_isSeamOpen 25 = .ok (.iload_n 3, 1) := by decide +kernel
theorem dX12_isSeamOpen_26 : decode cX12_isSeamOpen 26 = .ok (.iadd, 1) := by decide +kernel
theorem dX12_isSeamOpen_27 : decode cX12_isSeamOpen 27 = .ok (.iload_n 3, 1) := by decide +kernel
theorem dX12_isSeamOpen_28 : decode cX12_isSeamOpen 28 = .ok (.irem, 1) := by decide +kernel
theorem dX12_isSeamOpen_29 : decode cX12_isSeamOpen 29 = .ok (.aload_n 0, 1) := by decide +kernel
theorem dX12_isSeamOpen_30 : decode cX12_isSeamOpen 30 = .ok (.getfield 23, 3) := by decide +kernel
theorem dX12_isSeamOpen_33 : decode cX12_isSeamOpen 33 = .ok (.iconst 4, 1) := by decide +kernel
theorem dX12_isSeamOpen_34 : decode cX12_isSeamOpen 34 = .ok (.iload_n 1, 1) := by decide +kernel
theorem dX12_isSeamOpen_35 : decode cX12_isSeamOpen 35 = .ok (.imul, 1) := by decide +kernel
theorem dX12_isSeamOpen_36 : decode cX12_isSeamOpen 36 = .ok (.iconst 3, 1) := by decide +kernel
theorem dX12_isSeamOpen_37 : decode cX12_isSeamOpen 37 = .ok (.iadd, 1) := by decide +kernel
theorem dX12_isSeamOpen_38 : decode cX12_isSeamOpen 38 = .ok (.iaload, 1) := by decide +kernel
theorem dX12_isSeamOpen_39 : decode cX12_isSeamOpen 39 = .ok (.if_icmp .ge 7, 3) := by decide +kernel
theorem dX12_isSeamOpen_42 : decode cX12_isSeamOpen 42 = .ok (.iconst 1, 1) := by decide +kernel
theorem dX12_isSeamOpen_43 : decode cX12_isSeamOpen 43 = .ok (.goto 4, 3) := by decide +kernel
theorem dX12_isSeamOpen_46 : decode cX12_isSeamOpen 46 = .ok (.iconst 0, 1) := by decide +kernel
theorem dX12_isSeamOpen_47 : decode cX12_isSeamOpen 47 = .ok (.ireturn, 1) := by decide +kernel
theorem dX12_cracksAt_0 : decode cX12_cracksAt 0 = .ok (.aload_n 0, 1) := by decide +kernel
theorem dX12_cracksAt_1 : decode cX12_cracksAt 1 = .ok (.aload_n 0, 1) := by decide +kernel
theorem dX12_cracksAt_2 : decode cX12_cracksAt 2 = .ok (.getfield 20, 3) := by decide +kernel
theorem dX12_cracksAt_5 : decode cX12_cracksAt 5 = .ok (.iconst 2, 1) := by decide +kernel
theorem dX12_cracksAt_6 : decode cX12_cracksAt 6 = .ok (.iload_n 1, 1) := by decide +kernel
theorem dX12_cracksAt_7 : decode cX12_cracksAt 7 = .ok (.imul, 1) := by decide +kernel
theorem dX12_cracksAt_8 : decode cX12_cracksAt 8 = .ok (.iaload, 1) := by decide +kernel
theorem dX12_cracksAt_9 : decode cX12_cracksAt 9 = .ok (.iload_n 2, 1) := by decide +kernel
theorem dX12_cracksAt_10 : decode cX12_cracksAt 10 = .ok (.invokevirtual 162, 3) := by decide +kernel
theorem dX12_cracksAt_13 : decode cX12_cracksAt 13 = .ok (.invokestatic 165, 3) := by decide +kernel
theorem dX12_cracksAt_16 : decode cX12_cracksAt 16 = .ok (.aload_n 0, 1) := by decide +kernel
theorem dX12_cracksAt_17 : decode cX12_cracksAt 17 = .ok (.getfield 7, 3) := by decide +kernel
theorem dX12_cracksAt_20 : decode cX12_cracksAt 20 = .ok (.iconst 4, 1) := by decide +kernel
theorem dX12_cracksAt_21 : decode cX12_cracksAt 21 = .ok (.iload_n 1, 1) := by decide +kernel
theorem dX12_cracksAt_22 : decode cX12_cracksAt 22 = .ok (.iadd, 1) := by decide +kernel
theorem dX12_cracksAt_23 : decode cX12_cracksAt 23 = .ok (.iaload, 1) := by decide +kernel
theorem dX12_cracksAt_24 : decode cX12_cracksAt 24 = .ok (.if_icmp .le 7, 3) := by decide +kernel
theorem dX12_cracksAt_27 : decode cX12_cracksAt 27 = .ok (.iconst 1, 1) := by decide +kernel
theorem dX12_cracksAt_28 : decode cX12_cracksAt 28 = .ok (.goto 4, 3) := by decide +kernel
theorem dX12_cracksAt_31 : decode cX12_cracksAt 31 = .ok (.iconst 0, 1) := by decide +kernel
theorem dX12_cracksAt_32 : decode cX12_cracksAt 32 = .ok (.ireturn, 1) := by decide +kernel
theorem dX12_openNow_0 : decode cX12_openNow 0 = .ok (.iconst 0, 1) := by decide +kernel
theorem dX12_openNow_1 : decode cX12_openNow 1 = .ok (.istore_n 1, 1) := by decide +kernel
theorem dX12_openNow_2 : decode cX12_openNow 2 = .ok (.iconst 0, 1) := by decide +kernel
theorem dX12_openNow_3 : decode cX12_openNow 3 = .ok (.istore_n 2, 1) := by decide +kernel
theorem dX12_openNow_4 : decode cX12_openNow 4 = .ok (.iload_n 2, 1) := by decide +kernel
theorem dX12_openNow_5 : decode cX12_openNow 5 = .ok (.aload_n 0, 1) := by decide +kernel
theorem dX12_openNow_6 : decode cX12_openNow 6 = .ok (.getfield 137, 3) := by decide +kernel
theorem dX12_openNow_9 : decode cX12_openNow 9 = .ok (.if_icmp .ge 28, 3) := by decide +kernel
theorem dX12_openNow_12 : decode cX12_openNow 12 = .ok (.iload_n 1, 1) := by decide +kernel
theorem dX12_openNow_13 : decode cX12_openNow 13 = .ok (.aload_n 0, 1) := by decide +kernel
theorem dX12_openNow_14 : decode cX12_openNow 14 = .ok (.iload_n 2, 1) := by decide +kernel
theorem dX12_openNow_15 : decode cX12_openNow 15 = .ok (.aload_n 0, 1) := by decide +kernel
theorem dX12_openNow_16 : decode cX12_openNow 16 = .ok (.getfield 7, 3) := by decide +kernel
theorem dX12_openNow_19 : decode cX12_openNow 19 = .ok (.iconst 0, 1) := by decide +kernel
theorem dX12_openNow_20 : decode cX12_openNow 20 = .ok (.iaload, 1) := by decide +kernel
theorem dX12_openNow_21 : decode cX12_openNow 21 = .ok (.invokevirtual 169, 3) := by decide +kernel
theorem dX12_openNow_24 : decode cX12_openNow 24 = .ok (.invokestatic 173, 3) := by decide +kernel
theorem dX12_openNow_27 : decode cX12_openNow 27 = .ok (.iload_n 2, 1) := by decide +kernel
theorem dX12_openNow_28 : decode cX12_openNow 28 = .ok (.ishl, 1) := by decide +kernel
theorem dX12_openNow_29 : decode cX12_openNow 29 = .ok (.ior, 1) := by decide +kernel
theorem dX12_openNow_30 : decode cX12_openNow 30 = .ok (.istore_n 1, 1) := by decide +kernel
theorem dX12_openNow_31 : decode cX12_openNow 31 = .ok (.iinc 2 1, 3) := by decide +kernel
theorem dX12_openNow_34 : decode cX12_openNow 34 = .ok (.goto (-30), 3) := by decide +kernel
theorem dX12_openNow_37 : decode cX12_openNow 37 = .ok (.iload_n 1, 1) := by decide +kernel
theorem dX12_openNow_38 : decode cX12_openNow 38 = .ok (.ireturn, 1) := by decide +kernel
theorem dX12_crackNow_0 : decode cX12_crackNow 0 = .ok (.iconst 0, 1) := by decide +kernel
theorem dX12_crackNow_1 : decode cX12_crackNow 1 = .ok (.istore_n 1, 1) := by decide +kernel
theorem dX12_crackNow_2 : decode cX12_crackNow 2 = .ok (.iconst 0, 1) := by decide +kernel
theorem dX12_crackNow_3 : decode cX12_crackNow 3 = .ok (.istore_n 2, 1) := by decide +kernel
theorem dX12_crackNow_4 : decode cX12_crackNow 4 = .ok (.iload_n 2, 1) := by decide +kernel
theorem dX12_crackNow_5 : decode cX12_crackNow 5 = .ok (.aload_n 0, 1) := by decide +kernel
theorem dX12_crackNow_6 : decode cX12_crackNow 6 = .ok (.getfield 134, 3) := by decide +kernel
theorem dX12_crackNow_9 : decode cX12_crackNow 9 = .ok (.if_icmp .ge 28, 3) := by decide +kernel
theorem dX12_crackNow_12 : decode cX12_crackNow 12 = .ok (.iload_n 1, 1) := by decide +kernel
theorem dX12_crackNow_13 : decode cX12_crackNow 13 = .ok (.aload_n 0, 1) := by decide +kernel
theorem dX12_crackNow_14 : decode cX12_crackNow 14 = .ok (.iload_n 2, 1) := by decide +kernel
theorem dX12_crackNow_15 : decode cX12_crackNow 15 = .ok (.aload_n 0, 1) := by decide +kernel
theorem dX12_crackNow_16 : decode cX12_crackNow 16 = .ok (.getfield 7, 3) := by decide +kernel
theorem dX12_crackNow_19 : decode cX12_crackNow 19 = .ok (.iconst 1, 1) := by decide +kernel
theorem dX12_crackNow_20 : decode cX12_crackNow 20 = .ok (.iaload, 1) := by decide +kernel
theorem dX12_crackNow_21 : decode cX12_crackNow 21 = .ok (.invokevirtual 177, 3) := by decide +kernel
theorem dX12_crackNow_24 : decode cX12_crackNow 24 = .ok (.invokestatic 173, 3) := by decide +kernel
theorem dX12_crackNow_27 : decode cX12_crackNow 27 = .ok (.iload_n 2, 1) := by decide +kernel
theorem dX12_crackNow_28 : decode cX12_crackNow 28 = .ok (.ishl, 1) := by decide +kernel
theorem dX12_crackNow_29 : decode cX12_crackNow 29 = .ok (.ior, 1) := by decide +kernel
theorem dX12_crackNow_30 : decode cX12_crackNow 30 = .ok (.istore_n 1, 1) := by decide +kernel
theorem dX12_crackNow_31 : decode cX12_crackNow 31 = .ok (.iinc 2 1, 3) := by decide +kernel
theorem dX12_crackNow_34 : decode cX12_crackNow 34 = .ok (.goto (-30), 3) := by decide +kernel
theorem dX12_crackNow_37 : decode cX12_crackNow 37 = .ok (.iload_n 1, 1) := by decide +kernel
theorem dX12_crackNow_38 : decode cX12_crackNow 38 = .ok (.ireturn, 1) := by decide +kernel
theorem dX12_told_0 : decode cX12_told 0 = .ok (.iload_n 1, 1) := by decide +kernel
theorem dX12_told_1 : decode cX12_told 1 = .ok (.tableswitch 169 0 14 #[75, 80, 85, 90, 95, 102, 109, 127, 134, 139, 144, 149, 154, 159, 164], 75) := by decide +kernel
theorem dX12_told_76 : decode cX12_told 76 = .ok (.aload_n 0, 1) := by decide +kernel
theorem dX12_told_77 : decode cX12_told 77 = .ok (.getfield 131, 3) := by decide +kernel
theorem dX12_told_80 : decode cX12_told 80 = .ok (.ireturn, 1) := by decide +kernel
theorem dX12_told_81 : decode cX12_told 81 = .ok (.aload_n 0, 1) := by decide +kernel
theorem dX12_told_82 : decode cX12_told 82 = .ok (.getfield 134, 3) := by decide +kernel
theorem dX12_told_85 : decode cX12_told 85 = .ok (.ireturn, 1) := by decide +kernel
theorem dX12_told_86 : decode cX12_told 86 = .ok (.aload_n 0, 1) := by decide +kernel
theorem dX12_told_87 : decode cX12_told 87 = .ok (.getfield 137, 3) := by decide +kernel
theorem dX12_told_90 : decode cX12_told 90 = .ok (.ireturn, 1) := by decide +kernel
theorem dX12_told_91 : decode cX12_told 91 = .ok (.aload_n 0, 1) := by decide +kernel
theorem dX12_told_92 : decode cX12_told 92 = .ok (.getfield 73, 3) := by decide +kernel
theorem dX12_told_95 : decode cX12_told 95 = .ok (.ireturn, 1) := by decide +kernel
theorem dX12_told_96 : decode cX12_told 96 = .ok (.aload_n 0, 1) := by decide +kernel
theorem dX12_told_97 : decode cX12_told 97 = .ok (.getfield 7, 3) := by decide +kernel
theorem dX12_told_100 : decode cX12_told 100 = .ok (.iconst 0, 1) := by decide +kernel
theorem dX12_told_101 : decode cX12_told 101 = .ok (.iaload, 1) := by decide +kernel
theorem dX12_told_102 : decode cX12_told 102 = .ok (.ireturn, 1) := by decide +kernel
theorem dX12_told_103 : decode cX12_told 103 = .ok (.aload_n 0, 1) := by decide +kernel
theorem dX12_told_104 : decode cX12_told 104 = .ok (.getfield 7, 3) := by decide +kernel
theorem dX12_told_107 : decode cX12_told 107 = .ok (.iconst 1, 1) := by decide +kernel
theorem dX12_told_108 : decode cX12_told 108 = .ok (.iaload, 1) := by decide +kernel
theorem dX12_told_109 : decode cX12_told 109 = .ok (.ireturn, 1) := by decide +kernel
theorem dX12_told_110 : decode cX12_told 110 = .ok (.aload_n 0, 1) := by decide +kernel
theorem dX12_told_111 : decode cX12_told 111 = .ok (.getfield 131, 3) := by decide +kernel
theorem dX12_told_114 : decode cX12_told 114 = .ok (.ifCond .ne 7, 3) := by decide +kernel
theorem dX12_told_117 : decode cX12_told 117 = .ok (.iconst (-1), 1) := by decide +kernel
theorem dX12_told_118 : decode cX12_told 118 = .ok (.goto 9, 3) := by decide +kernel
theorem dX12_told_121 : decode cX12_told 121 = .ok (.aload_n 0, 1) := by decide +kernel
theorem dX12_told_122 : decode cX12_told 122 = .ok (.getfield 7, 3) := by decide +kernel
theorem dX12_told_125 : decode cX12_told 125 = .ok (.iconst 2, 1) := by decide +kernel
theorem dX12_told_126 : decode cX12_told 126 = .ok (.iaload, 1) := by decide +kernel
theorem dX12_told_127 : decode cX12_told 127 = .ok (.ireturn, 1) := by decide +kernel
theorem dX12_told_128 : decode cX12_told 128 = .ok (.aload_n 0, 1) := by decide +kernel
theorem dX12_told_129 : decode cX12_told 129 = .ok (.getfield 7, 3) := by decide +kernel
theorem dX12_told_132 : decode cX12_told 132 = .ok (.iconst 3, 1) := by decide +kernel
theorem dX12_told_133 : decode cX12_told 133 = .ok (.iaload, 1) := by decide +kernel
theorem dX12_told_134 : decode cX12_told 134 = .ok (.ireturn, 1) := by decide +kernel
theorem dX12_told_135 : decode cX12_told 135 = .ok (.aload_n 0, 1) := by decide +kernel
theorem dX12_told_136 : decode cX12_told 136 = .ok (.getfield 33, 3) := by decide +kernel
theorem dX12_told_139 : decode cX12_told 139 = .ok (.ireturn, 1) := by decide +kernel
theorem dX12_told_140 : decode cX12_told 140 = .ok (.aload_n 0, 1) := by decide +kernel
theorem dX12_told_141 : decode cX12_told 141 = .ok (.getfield 140, 3) := by decide +kernel
theorem dX12_told_144 : decode cX12_told 144 = .ok (.ireturn, 1) := by decide +kernel
theorem dX12_told_145 : decode cX12_told 145 = .ok (.aload_n 0, 1) := by decide +kernel
theorem dX12_told_146 : decode cX12_told 146 = .ok (.getfield 143, 3) := by decide +kernel
theorem dX12_told_149 : decode cX12_told 149 = .ok (.ireturn, 1) := by decide +kernel
theorem dX12_told_150 : decode cX12_told 150 = .ok (.aload_n 0, 1) := by decide +kernel
theorem dX12_told_151 : decode cX12_told 151 = .ok (.getfield 146, 3) := by decide +kernel
theorem dX12_told_154 : decode cX12_told 154 = .ok (.ireturn, 1) := by decide +kernel
theorem dX12_told_155 : decode cX12_told 155 = .ok (.aload_n 0, 1) := by decide +kernel
theorem dX12_told_156 : decode cX12_told 156 = .ok (.getfield 149, 3) := by decide +kernel
theorem dX12_told_159 : decode cX12_told 159 = .ok (.ireturn, 1) := by decide +kernel
theorem dX12_told_160 : decode cX12_told 160 = .ok (.aload_n 0, 1) := by decide +kernel
theorem dX12_told_161 : decode cX12_told 161 = .ok (.invokevirtual 180, 3) := by decide +kernel
theorem dX12_told_164 : decode cX12_told 164 = .ok (.ireturn, 1) := by decide +kernel
theorem dX12_told_165 : decode cX12_told 165 = .ok (.aload_n 0, 1) := by decide +kernel
theorem dX12_told_166 : decode cX12_told 166 = .ok (.invokevirtual 183, 3) := by decide +kernel
theorem dX12_told_169 : decode cX12_told 169 = .ok (.ireturn, 1) := by decide +kernel
theorem dX12_told_170 : decode cX12_told 170 = .ok (.ldc 72, 2) := by decide +kernel
theorem dX12_told_172 : decode cX12_told 172 = .ok (.ireturn, 1) := by decide +kernel
theorem dX12_field_0 : decode cX12_field 0 = .ok (.aload_n 0, 1) := by decide +kernel
theorem dX12_field_1 : decode cX12_field 1 = .ok (.iload_n 1, 1) := by decide +kernel
theorem dX12_field_2 : decode cX12_field 2 = .ok (.invokevirtual 186, 3) := by decide +kernel
theorem dX12_field_5 : decode cX12_field 5 = .ok (.ifCond .ne 6, 3) := by decide +kernel
theorem dX12_field_8 : decode cX12_field 8 = .ok (.ldc 190, 2) := by decide +kernel
theorem dX12_field_10 : decode cX12_field 10 = .ok (.ireturn, 1) := by decide +kernel
theorem dX12_field_11 : decode cX12_field 11 = .ok (.iload_n 2, 1) := by decide +kernel
theorem dX12_field_12 : decode cX12_field 12 = .ok (.i2l, 1) := by decide +kernel
theorem dX12_field_13 : decode cX12_field 13 = .ok (.lconst 0, 1) := by decide +kernel
theorem dX12_field_14 : decode cX12_field 14 = .ok (.ldc2_w 191, 3) := by decide +kernel
theorem dX12_field_17 : decode cX12_field 17 = .ok (.invokestatic 68, 3) := by decide +kernel
theorem dX12_field_20 : decode cX12_field 20 = .ok (.ifCond .eq 16, 3) := by decide +kernel
theorem dX12_field_23 : decode cX12_field 23 = .ok (.aload_n 0, 1) := by decide +kernel
theorem dX12_field_24 : decode cX12_field 24 = .ok (.getfield 17, 3) := by decide +kernel
theorem dX12_field_27 : decode cX12_field 27 = .ok (.iconst 4, 1) := by decide +kernel
theorem dX12_field_28 : decode cX12_field 28 = .ok (.iload_n 1, 1) := by decide +kernel
theorem dX12_field_29 : decode cX12_field 29 = .ok (.imul, 1) := by decide +kernel
theorem dX12_field_30 : decode cX12_field 30 = .ok (.iload_n 2, 1) := by decide +kernel
theorem dX12_field_31 : decode cX12_field 31 = .ok (.iadd, 1) := by decide +kernel
theorem dX12_field_32 : decode cX12_field 32 = .ok (.iaload, 1) := by decide +kernel
