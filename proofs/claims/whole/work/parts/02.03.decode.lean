theorem dX12_field_33 : decode cX12_field 33 = .ok (.goto 43, 3) := by decide +kernel
theorem dX12_field_36 : decode cX12_field 36 = .ok (.iload_n 2, 1) := by decide +kernel
theorem dX12_field_37 : decode cX12_field 37 = .ok (.iconst 4, 1) := by decide +kernel
theorem dX12_field_38 : decode cX12_field 38 = .ok (.if_icmp .ne 17, 3) := by decide +kernel
theorem dX12_field_41 : decode cX12_field 41 = .ok (.aload_n 0, 1) := by decide +kernel
theorem dX12_field_42 : decode cX12_field 42 = .ok (.iload_n 1, 1) := by decide +kernel
theorem dX12_field_43 : decode cX12_field 43 = .ok (.aload_n 0, 1) := by decide +kernel
theorem dX12_field_44 : decode cX12_field 44 = .ok (.getfield 7, 3) := by decide +kernel
theorem dX12_field_47 : decode cX12_field 47 = .ok (.iconst 1, 1) := by decide +kernel
theorem dX12_field_48 : decode cX12_field 48 = .ok (.iaload, 1) := by decide +kernel
theorem dX12_field_49 : decode cX12_field 49 = .ok (.invokevirtual 159, 3) := by decide +kernel
theorem dX12_field_52 : decode cX12_field 52 = .ok (.goto 24, 3) := by decide +kernel
theorem dX12_field_55 : decode cX12_field 55 = .ok (.iload_n 2, 1) := by decide +kernel
theorem dX12_field_56 : decode cX12_field 56 = .ok (.iconst 5, 1) := by decide +kernel
theorem dX12_field_57 : decode cX12_field 57 = .ok (.if_icmp .ne 17, 3) := by decide +kernel
theorem dX12_field_60 : decode cX12_field 60 = .ok (.aload_n 0, 1) := by decide +kernel
theorem dX12_field_61 : decode cX12_field 61 = .ok (.iload_n 1, 1) := by decide +kernel
theorem dX12_field_62 : decode cX12_field 62 = .ok (.aload_n 0, 1) := by decide +kernel
theorem dX12_field_63 : decode cX12_field 63 = .ok (.getfield 7, 3) := by decide +kernel
theorem dX12_field_66 : decode cX12_field 66 = .ok (.iconst 1, 1) := by decide +kernel
theorem dX12_field_67 : decode cX12_field 67 = .ok (.iaload, 1) := by decide +kernel
theorem dX12_field_68 : decode cX12_field 68 = .ok (.invokevirtual 162, 3) := by decide +kernel
theorem dX12_field_71 : decode cX12_field 71 = .ok (.goto 5, 3) := by decide +kernel
theorem dX12_field_74 : decode cX12_field 74 = .ok (.ldc 72, 2) := by decide +kernel
theorem dX12_field_76 : decode cX12_field 76 = .ok (.ireturn, 1) := by decide +kernel
theorem dX12_height_0 : decode cX12_height 0 = .ok (.aload_n 0, 1) := by decide +kernel
theorem dX12_height_1 : decode cX12_height 1 = .ok (.iload_n 1, 1) := by decide +kernel
theorem dX12_height_2 : decode cX12_height 2 = .ok (.invokevirtual 186, 3) := by decide +kernel
theorem dX12_height_5 : decode cX12_height 5 = .ok (.ifCond .ne 8, 3) := by decide +kernel
theorem dX12_height_8 : decode cX12_height 8 = .ok (.ldc 190, 2) := by decide +kernel
theorem dX12_height_10 : decode cX12_height 10 = .ok (.goto 26, 3) := by decide +kernel
theorem dX12_height_13 : decode cX12_height 13 = .ok (.iload_n 2, 1) := by decide +kernel
theorem dX12_height_14 : decode cX12_height 14 = .ok (.i2l, 1) := by decide +kernel
theorem dX12_height_15 : decode cX12_height 15 = .ok (.lconst 0, 1) := by decide +kernel
theorem dX12_height_16 : decode cX12_height 16 = .ok (.ldc2_w 193, 3) := by decide +kernel
theorem dX12_height_19 : decode cX12_height 19 = .ok (.invokestatic 68, 3) := by decide +kernel
theorem dX12_height_22 : decode cX12_height 22 = .ok (.ifCond .eq 12, 3) := by decide +kernel
theorem dX12_height_25 : decode cX12_height 25 = .ok (.aload_n 0, 1) := by decide +kernel
theorem dX12_height_26 : decode cX12_height 26 = .ok (.iload_n 1, 1) := by decide +kernel
theorem dX12_height_27 : decode cX12_height 27 = .ok (.iload_n 2, 1) := by decide +kernel
theorem dX12_height_28 : decode cX12_height 28 = .ok (.invokevirtual 159, 3) := by decide +kernel
theorem dX12_height_31 : decode cX12_height 31 = .ok (.goto 5, 3) := by decide +kernel
theorem dX12_height_34 : decode cX12_height 34 = .ok (.ldc 72, 2) := by decide +kernel
theorem dX12_height_36 : decode cX12_height 36 = .ok (.ireturn, 1) := by decide +kernel
theorem dX12_needs_0 : decode cX12_needs 0 = .ok (.iconst 0, 1) := by decide +kernel
theorem dX12_needs_1 : decode cX12_needs 1 = .ok (.istore_n 2, 1) := by decide +kernel
theorem dX12_needs_2 : decode cX12_needs 2 = .ok (.iconst 0, 1) := by decide +kernel
theorem dX12_needs_3 : decode cX12_needs 3 = .ok (.istore_n 3, 1) := by decide +kernel
theorem dX12_needs_4 : decode cX12_needs 4 = .ok (.iload_n 3, 1) := by decide +kernel
theorem dX12_needs_5 : decode cX12_needs 5 = .ok (.aload_n 0, 1) := by decide +kernel
theorem dX12_needs_6 : decode cX12_needs 6 = .ok (.getfield 33, 3) := by decide +kernel
theorem dX12_needs_9 : decode cX12_needs 9 = .ok (.if_icmp .ge 40, 3) := by decide +kernel
theorem dX12_needs_12 : decode cX12_needs 12 = .ok (.aload_n 0, 1) := by decide +kernel
theorem dX12_needs_13 : decode cX12_needs 13 = .ok (.aload_n 0, 1) := by decide +kernel
theorem dX12_needs_14 : decode cX12_needs 14 = .ok (.getfield 20, 3) := by decide +kernel
theorem dX12_needs_17 : decode cX12_needs 17 = .ok (.iconst 2, 1) := by decide +kernel
theorem dX12_needs_18 : decode cX12_needs 18 = .ok (.iload_n 1, 1) := by decide +kernel
theorem dX12_needs_19 : decode cX12_needs 19 = .ok (.imul, 1) := by decide +kernel
theorem dX12_needs_20 : decode cX12_needs 20 = .ok (.iaload, 1) := by decide +kernel
theorem dX12_needs_21 : decode cX12_needs 21 = .ok (.iload_n 3, 1) := by decide +kernel
theorem dX12_needs_22 : decode cX12_needs 22 = .ok (.invokevirtual 162, 3) := by decide +kernel
theorem dX12_needs_25 : decode cX12_needs 25 = .ok (.invokestatic 165, 3) := by decide +kernel
theorem dX12_needs_28 : decode cX12_needs 28 = .ok (.istore 4, 2) := by decide +kernel
theorem dX12_needs_30 : decode cX12_needs 30 = .ok (.iload 4, 2) := by decide +kernel
theorem dX12_needs_32 : decode cX12_needs 32 = .ok (.iload_n 2, 1) := by decide +kernel
theorem dX12_needs_33 : decode cX12_needs 33 = .ok (.if_icmp .le 8, 3) := by decide +kernel
theorem dX12_needs_36 : decode cX12_needs 36 = .ok (.iload 4, 2) := by decide +kernel
theorem dX12_needs_38 : decode cX12_needs 38 = .ok (.goto 4, 3) := by decide +kernel
theorem dX12_needs_41 : decode cX12_needs 41 = .ok (.iload_n 2, 1) := by decide +kernel
theorem dX12_needs_42 : decode cX12_needs 42 = .ok (.istore_n 2, 1) := by decide +kernel
theorem dX12_needs_43 : decode cX12_needs 43 = .ok (.iinc 3 1, 3) := by decide +kernel
theorem dX12_needs_46 : decode cX12_needs 46 = .ok (.goto (-42), 3) := by decide +kernel
theorem dX12_needs_49 : decode cX12_needs 49 = .ok (.iload_n 2, 1) := by decide +kernel
theorem dX12_needs_50 : decode cX12_needs 50 = .ok (.ireturn, 1) := by decide +kernel
theorem dX12_house_0 : decode cX12_house 0 = .ok (.iload_n 1, 1) := by decide +kernel
theorem dX12_house_1 : decode cX12_house 1 = .ok (.i2l, 1) := by decide +kernel
theorem dX12_house_2 : decode cX12_house 2 = .ok (.lconst 0, 1) := by decide +kernel
theorem dX12_house_3 : decode cX12_house 3 = .ok (.aload_n 0, 1) := by decide +kernel
theorem dX12_house_4 : decode cX12_house 4 = .ok (.getfield 134, 3) := by decide +kernel
theorem dX12_house_7 : decode cX12_house 7 = .ok (.iconst 1, 1) := by decide +kernel
theorem dX12_house_8 : decode cX12_house 8 = .ok (.isub, 1) := by decide +kernel
theorem dX12_house_9 : decode cX12_house 9 = .ok (.i2l, 1) := by decide +kernel
theorem dX12_house_10 : decode cX12_house 10 = .ok (.invokestatic 68, 3) := by decide +kernel
theorem dX12_house_13 : decode cX12_house 13 = .ok (.ifCond .ne 6, 3) := by decide +kernel
theorem dX12_house_16 : decode cX12_house 16 = .ok (.ldc 190, 2) := by decide +kernel
theorem dX12_house_18 : decode cX12_house 18 = .ok (.ireturn, 1) := by decide +kernel
theorem dX12_house_19 : decode cX12_house 19 = .ok (.iload_n 2, 1) := by decide +kernel
theorem dX12_house_20 : decode cX12_house 20 = .ok (.ifCond .ne 14, 3) := by decide +kernel
theorem dX12_house_23 : decode cX12_house 23 = .ok (.aload_n 0, 1) := by decide +kernel
theorem dX12_house_24 : decode cX12_house 24 = .ok (.getfield 20, 3) := by decide +kernel
theorem dX12_house_27 : decode cX12_house 27 = .ok (.iconst 2, 1) := by decide +kernel
theorem dX12_house_28 : decode cX12_house 28 = .ok (.iload_n 1, 1) := by decide +kernel
theorem dX12_house_29 : decode cX12_house 29 = .ok (.imul, 1) := by decide +kernel
theorem dX12_house_30 : decode cX12_house 30 = .ok (.iaload, 1) := by decide +kernel
theorem dX12_house_31 : decode cX12_house 31 = .ok (.goto 34, 3) := by decide +kernel
theorem dX12_house_34 : decode cX12_house 34 = .ok (.iload_n 2, 1) := by decide +kernel
theorem dX12_house_35 : decode cX12_house 35 = .ok (.iconst 1, 1) := by decide +kernel
theorem dX12_house_36 : decode cX12_house 36 = .ok (.if_icmp .ne 14, 3) := by decide +kernel
theorem dX12_house_39 : decode cX12_house 39 = .ok (.aload_n 0, 1) := by decide +kernel
theorem dX12_house_40 : decode cX12_house 40 = .ok (.getfield 7, 3) := by decide +kernel
theorem dX12_house_43 : decode cX12_house 43 = .ok (.iconst 4, 1) := by decide +kernel
theorem dX12_house_44 : decode cX12_house 44 = .ok (.iload_n 1, 1) := by decide +kernel
theorem dX12_house_45 : decode cX12_house 45 = .ok (.iadd, 1) := by decide +kernel
theorem dX12_house_46 : decode cX12_house 46 = .ok (.iaload, 1) := by decide +kernel
theorem dX12_house_47 : decode cX12_house 47 = .ok (.goto 18, 3) := by decide +kernel
theorem dX12_house_50 : decode cX12_house 50 = .ok (.iload_n 2, 1) := by decide +kernel
theorem dX12_house_51 : decode cX12_house 51 = .ok (.iconst 2, 1) := by decide +kernel
theorem dX12_house_52 : decode cX12_house 52 = .ok (.if_icmp .ne 11, 3) := by decide +kernel
theorem dX12_house_55 : decode cX12_house 55 = .ok (.aload_n 0, 1) := by decide +kernel
theorem dX12_house_56 : decode cX12_house 56 = .ok (.iload_n 1, 1) := by decide +kernel
theorem dX12_house_57 : decode cX12_house 57 = .ok (.invokevirtual 195, 3) := by decide +kernel
theorem dX12_house_60 : decode cX12_house 60 = .ok (.goto 5, 3) := by decide +kernel
theorem dX12_house_63 : decode cX12_house 63 = .ok (.ldc 72, 2) := by decide +kernel
theorem dX12_house_65 : decode cX12_house 65 = .ok (.ireturn, 1) := by decide +kernel
theorem dX12_seam_0 : decode cX12_seam 0 = .ok (.iload_n 1, 1) := by decide +kernel
theorem dX12_seam_1 : decode cX12_seam 1 = .ok (.i2l, 1) := by decide +kernel
theorem dX12_seam_2 : decode cX12_seam 2 = .ok (.lconst 0, 1) := by decide +kernel
theorem dX12_seam_3 : decode cX12_seam 3 = .ok (.aload_n 0, 1) := by decide +kernel
theorem dX12_seam_4 : decode cX12_seam 4 = .ok (.getfield 137, 3) := by decide +kernel
theorem dX12_seam_7 : decode cX12_seam 7 = .ok (.iconst 1, 1) := by decide +kernel
theorem dX12_seam_8 : decode cX12_seam 8 = .ok (.isub, 1) := by decide +kernel
theorem dX12_seam_9 : decode cX12_seam 9 = .ok (.i2l, 1) := by decide +kernel
theorem dX12_seam_10 : decode cX12_seam 10 = .ok (.invokestatic 68, 3) := by decide +kernel
theorem dX12_seam_13 : decode cX12_seam 13 = .ok (.ifCond .ne 8, 3) := by decide +kernel
theorem dX12_seam_16 : decode cX12_seam 16 = .ok (.ldc 190, 2) := by decide +kernel
theorem dX12_seam_18 : decode cX12_seam 18 = .ok (.goto 30, 3) := by decide +kernel
theorem dX12_seam_21 : decode cX12_seam 21 = .ok (.iload_n 2, 1) := by decide +kernel
theorem dX12_seam_22 : decode cX12_seam 22 = .ok (.i2l, 1) := by decide +kernel
theorem dX12_seam_23 : decode cX12_seam 23 = .ok (.lconst 0, 1) := by decide +kernel
theorem dX12_seam_24 : decode cX12_seam 24 = .ok (.ldc2_w 191, 3) := by decide +kernel
theorem dX12_seam_27 : decode cX12_seam 27 = .ok (.invokestatic 68, 3) := by decide +kernel
theorem dX12_seam_30 : decode cX12_seam 30 = .ok (.ifCond .eq 16, 3) := by decide +kernel
theorem dX12_seam_33 : decode cX12_seam 33 = .ok (.aload_n 0, 1) := by decide +kernel
theorem dX12_seam_34 : decode cX12_seam 34 = .ok (.getfield 23, 3) := by decide +kernel
theorem dX12_seam_37 : decode cX12_seam 37 = .ok (.iconst 4, 1) := by decide +kernel
theorem dX12_seam_38 : decode cX12_seam 38 = .ok (.iload_n 1, 1) := by decide +kernel
theorem dX12_seam_39 : decode cX12_seam 39 = .ok (.imul, 1) := by decide +kernel
theorem dX12_seam_40 : decode cX12_seam 40 = .ok (.iload_n 2, 1) := by decide +kernel
theorem dX12_seam_41 : decode cX12_seam 41 = .ok (.iadd, 1) := by decide +kernel
theorem dX12_seam_42 : decode cX12_seam 42 = .ok (.iaload, 1) := by decide +kernel
theorem dX12_seam_43 : decode cX12_seam 43 = .ok (.goto 5, 3) := by decide +kernel
theorem dX12_seam_46 : decode cX12_seam 46 = .ok (.ldc 72, 2) := by decide +kernel
theorem dX12_seam_48 : decode cX12_seam 48 = .ok (.ireturn, 1) := by decide +kernel
theorem dX12_remember_0 : decode cX12_remember 0 = .ok (.aload_n 0, 1) := by decide +kernel
theorem dX12_remember_1 : decode cX12_remember 1 = .ok (.getfield 149, 3) := by decide +kernel
theorem dX12_remember_4 : decode cX12_remember 4 = .ok (.bipush 40, 2) := by decide +kernel
theorem dX12_remember_6 : decode cX12_remember 6 = .ok (.if_icmp .ne 42, 3) := by decide +kernel
theorem dX12_remember_9 : decode cX12_remember 9 = .ok (.iconst 4, 1) := by decide +kernel
theorem dX12_remember_10 : decode cX12_remember 10 = .ok (.istore_n 1, 1) := by decide +kernel
theorem dX12_remember_11 : decode cX12_remember 11 = .ok (.iload_n 1, 1) := by decide +kernel
theorem dX12_remember_12 : decode cX12_remember 12 = .ok (.sipush 160, 3) := by decide +kernel
theorem dX12_remember_15 : decode cX12_remember 15 = .ok (.if_icmp .ge 23, 3) := by decide +kernel
theorem dX12_remember_18 : decode cX12_remember 18 = .ok (.aload_n 0, 1) := by decide +kernel
theorem dX12_remember_19 : decode cX12_remember 19 = .ok (.getfield 36, 3) := by decide +kernel
theorem dX12_remember_22 : decode cX12_remember 22 = .ok (.iload_n 1, 1) := by decide +kernel
theorem dX12_remember_23 : decode cX12_remember 23 = .ok (.iconst 4, 1) := by decide +kernel
theorem dX12_remember_24 : decode cX12_remember 24 = .ok (.isub, 1) := by decide +kernel
theorem dX12_remember_25 : decode cX12_remember 25 = .ok (.aload_n 0, 1) := by decide +kernel
theorem dX12_remember_26 : decode cX12_remember 26 = .ok (.getfield 36, 3) := by decide +kernel
theorem dX12_remember_29 : decode cX12_remember 29 = .ok (.iload_n 1, 1) := by decide +kernel
theorem dX12_remember_30 : decode cX12_remember 30 = .ok (.iaload, 1) := by decide +kernel
theorem dX12_remember_31 : decode cX12_remember 31 = .ok (.iastore, 1) := by decide +kernel
theorem dX12_remember_32 : decode cX12_remember 32 = .ok (.iinc 1 1, 3) := by decide +kernel
theorem dX12_remember_35 : decode cX12_remember 35 = .ok (.goto (-24), 3) := by decide +kernel
theorem dX12_remember_38 : decode cX12_remember 38 = .ok (.aload_n 0, 1) := by decide +kernel
theorem dX12_remember_39 : decode cX12_remember 39 = .ok (.dup, 1) := by decide +kernel
theorem dX12_remember_40 : decode cX12_remember 40 = .ok (.getfield 149, 3) := by decide +kernel
theorem dX12_remember_43 : decode cX12_remember 43 = .ok (.iconst 1, 1) := by decide +kernel
theorem dX12_remember_44 : decode cX12_remember 44 = .ok (.isub, 1) := by decide +kernel
theorem dX12_remember_45 : decode cX12_remember 45 = .ok (.putfield 149, 3) := by decide +kernel
theorem dX12_remember_48 : decode cX12_remember 48 = .ok (.iconst 0, 1) := by decide +kernel
theorem dX12_remember_49 : decode cX12_remember 49 = .ok (.istore_n 1, 1) := by decide +kernel
theorem dX12_remember_50 : decode cX12_remember 50 = .ok (.iload_n 1, 1) := by decide +kernel
theorem dX12_remember_51 : decode cX12_remember 51 = .ok (.iconst 4, 1) := by decide +kernel
theorem dX12_remember_52 : decode cX12_remember 52 = .ok (.if_icmp .ge 28, 3) := by decide +kernel
theorem dX12_remember_55 : decode cX12_remember 55 = .ok (.aload_n 0, 1) := by decide +kernel
theorem dX12_remember_56 : decode cX12_remember 56 = .ok (.getfield 36, 3) := by decide +kernel
theorem dX12_remember_59 : decode cX12_remember 59 = .ok (.iconst 4, 1) := by decide +kernel
theorem dX12_remember_60 : decode cX12_remember 60 = .ok (.aload_n 0, 1) := by decide +kernel
theorem dX12_remember_61 : decode cX12_remember 61 = .ok (.getfield 149, 3) := by decide +kernel
theorem dX12_remember_64 : decode cX12_remember 64 = .ok (.imul, 1) := by decide +kernel
theorem dX12_remember_65 : decode cX12_remember 65 = .ok (.iload_n 1, 1) := by decide +kernel
theorem dX12_remember_66 : decode cX12_remember 66 = .ok (.iadd, 1) := by decide +kernel
theorem dX12_remember_67 : decode cX12_remember 67 = .ok (.aload_n 0, 1) := by decide +kernel
theorem dX12_remember_68 : decode cX12_remember 68 = .ok (.getfield 7, 3) := by decide +kernel
theorem dX12_remember_71 : decode cX12_remember 71 = .ok (.iload_n 1, 1) := by decide +kernel
theorem dX12_remember_72 : decode cX12_remember 72 = .ok (.iaload, 1) := by decide +kernel
theorem dX12_remember_73 : decode cX12_remember 73 = .ok (.iastore, 1) := by decide +kernel
theorem dX12_remember_74 : decode cX12_remember 74 = .ok (.iinc 1 1, 3) := by decide +kernel
theorem dX12_remember_77 : decode cX12_remember 77 = .ok (.goto (-27), 3) := by decide +kernel
theorem dX12_remember_80 : decode cX12_remember 80 = .ok (.aload_n 0, 1) := by decide +kernel
theorem dX12_remember_81 : decode cX12_remember 81 = .ok (.dup, 1) := by decide +kernel
theorem dX12_remember_82 : decode cX12_remember 82 = .ok (.getfield 149, 3) := by decide +kernel
theorem dX12_remember_85 : decode cX12_remember 85 = .ok (.iconst 1, 1) := by decide +kernel
theorem dX12_remember_86 : decode cX12_remember 86 = .ok (.iadd, 1) := by decide +kernel
theorem dX12_remember_87 : decode cX12_remember 87 = .ok (.putfield 149, 3) := by decide +kernel
theorem dX12_remember_90 : decode cX12_remember 90 = .ok (.return_, 1) := by decide +kernel
theorem dX12_pass_0 : decode cX12_pass 0 = .ok (.iload_n 1, 1) := by decide +kernel
theorem dX12_pass_1 : decode cX12_pass 1 = .ok (.i2l, 1) := by decide +kernel
theorem dX12_pass_2 : decode cX12_pass 2 = .ok (.lconst 1, 1) := by decide +kernel
theorem dX12_pass_3 : decode cX12_pass 3 = .ok (.ldc2_w 198, 3) := by decide +kernel
theorem dX12_pass_6 : decode cX12_pass 6 = .ok (.invokestatic 68, 3) := by decide +kernel
theorem dX12_pass_9 : decode cX12_pass 9 = .ok (.ifCond .ne 6, 3) := by decide +kernel
theorem dX12_pass_12 : decode cX12_pass 12 = .ok (.ldc 72, 2) := by decide +kernel
theorem dX12_pass_14 : decode cX12_pass 14 = .ok (.ireturn, 1) := by decide +kernel
theorem dX12_pass_15 : decode cX12_pass 15 = .ok (.aload_n 0, 1) := by decide +kernel
theorem dX12_pass_16 : decode cX12_pass 16 = .ok (.getfield 7, 3) := by decide +kernel
theorem dX12_pass_19 : decode cX12_pass 19 = .ok (.iconst 0, 1) := by decide +kernel
theorem dX12_pass_20 : decode cX12_pass 20 = .ok (.iaload, 1) := by decide +kernel
theorem dX12_pass_21 : decode cX12_pass 21 = .ok (.ldc 200, 2) := by decide +kernel
theorem dX12_pass_23 : decode cX12_pass 23 = .ok (.if_icmp .le 6, 3) := by decide +kernel
theorem dX12_pass_26 : decode cX12_pass 26 = .ok (.ldc 76, 2) := by decide +kernel
theorem dX12_pass_28 : decode cX12_pass 28 = .ok (.ireturn, 1) := by decide +kernel
theorem dX12_pass_29 : decode cX12_pass 29 = .ok (.iconst 0, 1) := by decide +kernel
theorem dX12_pass_30 : decode cX12_pass 30 = .ok (.istore_n 3, 1) := by decide +kernel
theorem dX12_pass_31 : decode cX12_pass 31 = .ok (.iload_n 3, 1) := by decide +kernel
theorem dX12_pass_32 : decode cX12_pass 32 = .ok (.iload_n 1, 1) := by decide +kernel
theorem dX12_pass_33 : decode cX12_pass 33 = .ok (.if_icmp .ge 33, 3) := by decide +kernel
theorem dX12_pass_36 : decode cX12_pass 36 = .ok (.aload_n 0, 1) := by decide +kernel
theorem dX12_pass_37 : decode cX12_pass 37 = .ok (.invokevirtual 201, 3) := by decide +kernel
theorem dX12_pass_40 : decode cX12_pass 40 = .ok (.aload_n 0, 1) := by decide +kernel
theorem dX12_pass_41 : decode cX12_pass 41 = .ok (.getfield 7, 3) := by decide +kernel
theorem dX12_pass_44 : decode cX12_pass 44 = .ok (.iconst 0, 1) := by decide +kernel
theorem dX12_pass_45 : decode cX12_pass 45 = .ok (.dup2, 1) := by decide +kernel
theorem dX12_pass_46 : decode cX12_pass 46 = .ok (.iaload, 1) := by decide +kernel
theorem dX12_pass_47 : decode cX12_pass 47 = .ok (.iconst 1, 1) := by decide +kernel
theorem dX12_pass_48 : decode cX12_pass 48 = .ok (.iadd, 1) := by decide +kernel
theorem dX12_pass_49 : decode cX12_pass 49 = .ok (.iastore, 1) := by decide +kernel
theorem dX12_pass_50 : decode cX12_pass 50 = .ok (.aload_n 0, 1) := by decide +kernel
theorem dX12_pass_51 : decode cX12_pass 51 = .ok (.getfield 7, 3) := by decide +kernel
theorem dX12_pass_54 : decode cX12_pass 54 = .ok (.iconst 1, 1) := by decide +kernel
theorem dX12_pass_55 : decode cX12_pass 55 = .ok (.dup2, 1) := by decide +kernel
theorem dX12_pass_56 : decode cX12_pass 56 = .ok (.iaload, 1) := by decide +kernel
theorem dX12_pass_57 : decode cX12_pass 57 = .ok (.iload_n 2, 1) := by decide +kernel
theorem dX12_pass_58 : decode cX12_pass 58 = .ok (.iadd, 1) := by decide +kernel
theorem dX12_pass_59 : decode cX12_pass 59 = .ok (.iastore, 1) := by decide +kernel
theorem dX12_pass_60 : decode cX12_pass 60 = .ok (.iinc 3 1, 3) := by decide +kernel
theorem dX12_pass_63 : decode cX12_pass 63 = .ok (.goto (-32), 3) := by decide +kernel
theorem dX12_pass_66 : decode cX12_pass 66 = .ok (.aload_n 0, 1) := by decide +kernel
theorem dX12_pass_67 : decode cX12_pass 67 = .ok (.getfield 7, 3) := by decide +kernel
theorem dX12_pass_70 : decode cX12_pass 70 = .ok (.iconst 1, 1) := by decide +kernel
theorem dX12_pass_71 : decode cX12_pass 71 = .ok (.iaload, 1) := by decide +kernel
theorem dX12_pass_72 : decode cX12_pass 72 = .ok (.ireturn, 1) := by decide +kernel
theorem dX12_step_0 : decode cX12_step 0 = .ok (.aload_n 0, 1) := by decide +kernel
theorem dX12_step_1 : decode cX12_step 1 = .ok (.iload_n 1, 1) := by decide +kernel
theorem dX12_step_2 : decode cX12_step 2 = .ok (.iconst 1, 1) := by decide +kernel
theorem dX12_step_3 : decode cX12_step 3 = .ok (.invokevirtual 204, 3) := by decide +kernel
theorem dX12_step_6 : decode cX12_step 6 = .ok (.ireturn, 1) := by decide +kernel
theorem dX12_hold_0 : decode cX12_hold 0 = .ok (.aload_n 0, 1) := by decide +kernel
theorem dX12_hold_1 : decode cX12_hold 1 = .ok (.iload_n 1, 1) := by decide +kernel
theorem dX12_hold_2 : decode cX12_hold 2 = .ok (.iconst 0, 1) := by decide +kernel
theorem dX12_hold_3 : decode cX12_hold 3 = .ok (.invokevirtual 204, 3) := by decide +kernel
theorem dX12_hold_6 : decode cX12_hold 6 = .ok (.ireturn, 1) := by decide +kernel
theorem dX12_to_0 : decode cX12_to 0 = .ok (.iload_n 2, 1) := by decide +kernel
theorem dX12_to_1 : decode cX12_to 1 = .ok (.ifCond .ne 7, 3) := by decide +kernel
theorem dX12_to_4 : decode cX12_to 4 = .ok (.iload_n 1, 1) := by decide +kernel
theorem dX12_to_5 : decode cX12_to 5 = .ok (.goto 17, 3) := by decide +kernel
theorem dX12_to_8 : decode cX12_to 8 = .ok (.iload_n 2, 1) := by decide +kernel
theorem dX12_to_9 : decode cX12_to 9 = .ok (.iconst 1, 1) := by decide +kernel
theorem dX12_to_10 : decode cX12_to 10 = .ok (.if_icmp .ne 9, 3) := by decide +kernel
theorem dX12_to_13 : decode cX12_to 13 = .ok (.iload_n 1, 1) := by decide +kernel
theorem dX12_to_14 : decode cX12_to 14 = .ok (.iconst 1, 1) := by decide +kernel
theorem dX12_to_15 : decode cX12_to 15 = .ok (.isub, 1) := by decide +kernel
theorem dX12_to_16 : decode cX12_to 16 = .ok (.goto 6, 3) := by decide +kernel
theorem dX12_to_19 : decode cX12_to 19 = .ok (.iload_n 1, 1) := by decide +kernel
theorem dX12_to_20 : decode cX12_to 20 = .ok (.iconst 1, 1) := by decide +kernel
theorem dX12_to_21 : decode cX12_to 21 = .ok (.iadd, 1) := by decide +kernel
theorem dX12_to_22 : decode cX12_to 22 = .ok (.istore 4, 2) := by decide +kernel
theorem dX12_to_24 : decode cX12_to 24 = .ok (.aload_n 0, 1) := by decide +kernel
theorem dX12_to_25 : decode cX12_to 25 = .ok (.iload 4, 2) := by decide +kernel
theorem dX12_to_27 : decode cX12_to 27 = .ok (.invokevirtual 186, 3) := by decide +kernel
theorem dX12_to_30 : decode cX12_to 30 = .ok (.istore 5, 2) := by decide +kernel
theorem dX12_to_32 : decode cX12_to 32 = .ok (.iload 4, 2) := by decide +kernel
theorem dX12_to_34 : decode cX12_to 34 = .ok (.iload_n 1, 1) := by decide +kernel
theorem dX12_to_35 : decode cX12_to 35 = .ok (.if_icmp .ge 8, 3) := by decide +kernel
theorem dX12_to_38 : decode cX12_to 38 = .ok (.iload 4, 2) := by decide +kernel
theorem dX12_to_40 : decode cX12_to 40 = .ok (.goto 4, 3) := by decide +kernel
theorem dX12_to_43 : decode cX12_to 43 = .ok (.iload_n 1, 1) := by decide +kernel
theorem dX12_to_44 : decode cX12_to 44 = .ok (.istore 6, 2) := by decide +kernel
theorem dX12_to_46 : decode cX12_to 46 = .ok (.iconst 0, 1) := by decide +kernel
theorem dX12_to_47 : decode cX12_to 47 = .ok (.istore 7, 2) := by decide +kernel
theorem dX12_to_49 : decode cX12_to 49 = .ok (.iload 7, 2) := by decide +kernel
theorem dX12_to_51 : decode cX12_to 51 = .ok (.aload_n 0, 1) := by decide +kernel
theorem dX12_to_52 : decode cX12_to 52 = .ok (.getfield 137, 3) := by decide +kernel
theorem dX12_to_55 : decode cX12_to 55 = .ok (.if_icmp .ge 51, 3) := by decide +kernel
theorem dX12_to_58 : decode cX12_to 58 = .ok (.iload 5, 2) := by decide +kernel
theorem dX12_to_60 : decode cX12_to 60 = .ok (.ifCond .eq 46, 3) := by decide +kernel
theorem dX12_to_63 : decode cX12_to 63 = .ok (.iload 4, 2) := by decide +kernel
theorem dX12_to_65 : decode cX12_to 65 = .ok (.iload_n 1, 1) := by decide +kernel
theorem dX12_to_66 : decode cX12_to 66 = .ok (.if_icmp .eq 40, 3) := by decide +kernel
theorem dX12_to_69 : decode cX12_to 69 = .ok (.aload_n 0, 1) := by decide +kernel
theorem dX12_to_70 : decode cX12_to 70 = .ok (.getfield 23, 3) := by decide +kernel
theorem dX12_to_73 : decode cX12_to 73 = .ok (.iconst 4, 1) := by decide +kernel
theorem dX12_to_74 : decode cX12_to 74 = .ok (.iload 7, 2) := by decide +kernel
theorem dX12_to_76 : decode cX12_to 76 = .ok (.imul, 1) := by decide +kernel
theorem dX12_to_77 : decode cX12_to 77 = .ok (.iaload, 1) := by decide +kernel
theorem dX12_to_78 : decode cX12_to 78 = .ok (.iload 6, 2) := by decide +kernel
theorem dX12_to_80 : decode cX12_to 80 = .ok (.if_icmp .ne 13, 3) := by decide +kernel
theorem dX12_to_83 : decode cX12_to 83 = .ok (.aload_n 0, 1) := by decide +kernel
theorem dX12_to_84 : decode cX12_to 84 = .ok (.iload 7, 2) := by decide +kernel
theorem dX12_to_86 : decode cX12_to 86 = .ok (.iload_n 3, 1) := by decide +kernel
theorem dX12_to_87 : decode cX12_to 87 = .ok (.invokevirtual 169, 3) := by decide +kernel
theorem dX12_to_90 : decode cX12_to 90 = .ok (.ifCond .eq 7, 3) := by decide +kernel
theorem dX12_to_93 : decode cX12_to 93 = .ok (.iconst 1, 1) := by decide +kernel
theorem dX12_to_94 : decode cX12_to 94 = .ok (.goto 4, 3) := by decide +kernel
theorem dX12_to_97 : decode cX12_to 97 = .ok (.iconst 0, 1) := by decide +kernel
theorem dX12_to_98 : decode cX12_to 98 = .ok (.istore 5, 2) := by decide +kernel
theorem dX12_to_100 : decode cX12_to 100 = .ok (.iinc 7 1, 3) := by decide +kernel
theorem dX12_to_103 : decode cX12_to 103 = .ok (.goto (-54), 3) := by decide +kernel
theorem dX12_to_106 : decode cX12_to 106 = .ok (.iload 5, 2) := by decide +kernel
theorem dX12_to_108 : decode cX12_to 108 = .ok (.ifCond .eq 8, 3) := by decide +kernel
theorem dX12_to_111 : decode cX12_to 111 = .ok (.iload 4, 2) := by decide +kernel
theorem dX12_to_113 : decode cX12_to 113 = .ok (.goto 4, 3) := by decide +kernel
theorem dX12_to_116 : decode cX12_to 116 = .ok (.iconst (-1), 1) := by decide +kernel
theorem dX12_to_117 : decode cX12_to 117 = .ok (.ireturn, 1) := by decide +kernel
theorem dX12_pulledBy_0 : decode cX12_pulledBy 0 = .ok (.aload_n 0, 1) := by decide +kernel
theorem dX12_pulledBy_1 : decode cX12_pulledBy 1 = .ok (.iload_n 2, 1) := by decide +kernel
theorem dX12_pulledBy_2 : decode cX12_pulledBy 2 = .ok (.iload_n 3, 1) := by decide +kernel
theorem dX12_pulledBy_3 : decode cX12_pulledBy 3 = .ok (.invokevirtual 159, 3) := by decide +kernel
theorem dX12_pulledBy_6 : decode cX12_pulledBy 6 = .ok (.aload_n 0, 1) := by decide +kernel
theorem dX12_pulledBy_7 : decode cX12_pulledBy 7 = .ok (.iload_n 1, 1) := by decide +kernel
theorem dX12_pulledBy_8 : decode cX12_pulledBy 8 = .ok (.iload_n 3, 1) := by decide +kernel
theorem dX12_pulledBy_9 : decode cX12_pulledBy 9 = .ok (.invokevirtual 159, 3) := by decide +kernel
theorem dX12_pulledBy_12 : decode cX12_pulledBy 12 = .ok (.isub, 1) := by decide +kernel
theorem dX12_pulledBy_13 : decode cX12_pulledBy 13 = .ok (.istore 4, 2) := by decide +kernel
theorem dX12_pulledBy_15 : decode cX12_pulledBy 15 = .ok (.iload 4, 2) := by decide +kernel
theorem dX12_pulledBy_17 : decode cX12_pulledBy 17 = .ok (.ifCond .le 8, 3) := by decide +kernel
theorem dX12_pulledBy_20 : decode cX12_pulledBy 20 = .ok (.iload 4, 2) := by decide +kernel
theorem dX12_pulledBy_22 : decode cX12_pulledBy 22 = .ok (.goto 4, 3) := by decide +kernel
theorem dX12_pulledBy_25 : decode cX12_pulledBy 25 = .ok (.iconst 0, 1) := by decide +kernel
theorem dX12_pulledBy_26 : decode cX12_pulledBy 26 = .ok (.ireturn, 1) := by decide +kernel
theorem dX12_rollOn_0 : decode cX12_rollOn 0 = .ok (.aload_n 0, 1) := by decide +kernel
theorem dX12_rollOn_1 : decode cX12_rollOn 1 = .ok (.aload_n 0, 1) := by decide +kernel
theorem dX12_rollOn_2 : decode cX12_rollOn 2 = .ok (.getfield 7, 3) := by decide +kernel
theorem dX12_rollOn_5 : decode cX12_rollOn 5 = .ok (.iconst 2, 1) := by decide +kernel
theorem dX12_rollOn_6 : decode cX12_rollOn 6 = .ok (.iaload, 1) := by decide +kernel
theorem dX12_rollOn_7 : decode cX12_rollOn 7 = .ok (.iload_n 1, 1) := by decide +kernel
theorem dX12_rollOn_8 : decode cX12_rollOn 8 = .ok (.aload_n 0, 1) := by decide +kernel
theorem dX12_rollOn_9 : decode cX12_rollOn 9 = .ok (.getfield 7, 3) := by decide +kernel
theorem dX12_rollOn_12 : decode cX12_rollOn 12 = .ok (.iconst 0, 1) := by decide +kernel
theorem dX12_rollOn_13 : decode cX12_rollOn 13 = .ok (.iaload, 1) := by decide +kernel
theorem dX12_rollOn_14 : decode cX12_rollOn 14 = .ok (.iconst 1, 1) := by decide +kernel
theorem dX12_rollOn_15 : decode cX12_rollOn 15 = .ok (.iadd, 1) := by decide +kernel
theorem dX12_rollOn_16 : decode cX12_rollOn 16 = .ok (.invokevirtual 207, 3) := by decide +kernel
theorem dX12_rollOn_19 : decode cX12_rollOn 19 = .ok (.istore_n 3, 1) := by decide +kernel
theorem dX12_rollOn_20 : decode cX12_rollOn 20 = .ok (.aload_n 0, 1) := by decide +kernel
theorem dX12_rollOn_21 : decode cX12_rollOn 21 = .ok (.aload_n 0, 1) := by decide +kernel
theorem dX12_rollOn_22 : decode cX12_rollOn 22 = .ok (.getfield 7, 3) := by decide +kernel
theorem dX12_rollOn_25 : decode cX12_rollOn 25 = .ok (.iconst 2, 1) := by decide +kernel
theorem dX12_rollOn_26 : decode cX12_rollOn 26 = .ok (.iaload, 1) := by decide +kernel
theorem dX12_rollOn_27 : decode cX12_rollOn 27 = .ok (.iload_n 3, 1) := by decide +kernel
theorem dX12_rollOn_28 : decode cX12_rollOn 28 = .ok (.aload_n 0, 1) := by decide +kernel
theorem dX12_rollOn_29 : decode cX12_rollOn 29 = .ok (.getfield 7, 3) := by decide +kernel
theorem dX12_rollOn_32 : decode cX12_rollOn 32 = .ok (.iconst 1, 1) := by decide +kernel
theorem dX12_rollOn_33 : decode cX12_rollOn 33 = .ok (.iaload, 1) := by decide +kernel
theorem dX12_rollOn_34 : decode cX12_rollOn 34 = .ok (.iload_n 2, 1) := by decide +kernel
theorem dX12_rollOn_35 : decode cX12_rollOn 35 = .ok (.iadd, 1) := by decide +kernel
theorem dX12_rollOn_36 : decode cX12_rollOn 36 = .ok (.invokevirtual 211, 3) := by decide +kernel
theorem dX12_rollOn_39 : decode cX12_rollOn 39 = .ok (.istore 4, 2) := by decide +kernel
theorem dX12_rollOn_41 : decode cX12_rollOn 41 = .ok (.aload_n 0, 1) := by decide +kernel
theorem dX12_rollOn_42 : decode cX12_rollOn 42 = .ok (.getfield 7, 3) := by decide +kernel
theorem dX12_rollOn_45 : decode cX12_rollOn 45 = .ok (.iconst 0, 1) := by decide +kernel
theorem dX12_rollOn_46 : decode cX12_rollOn 46 = .ok (.dup2, 1) := by decide +kernel
theorem dX12_rollOn_47 : decode cX12_rollOn 47 = .ok (.iaload, 1) := by decide +kernel
theorem dX12_rollOn_48 : decode cX12_rollOn 48 = .ok (.iconst 1, 1) := by decide +kernel
theorem dX12_rollOn_49 : decode cX12_rollOn 49 = .ok (.iadd, 1) := by decide +kernel
theorem dX12_rollOn_50 : decode cX12_rollOn 50 = .ok (.iastore, 1) := by decide +kernel
theorem dX12_rollOn_51 : decode cX12_rollOn 51 = .ok (.aload_n 0, 1) := by decide +kernel
theorem dX12_rollOn_52 : decode cX12_rollOn 52 = .ok (.getfield 7, 3) := by decide +kernel
theorem dX12_rollOn_55 : decode cX12_rollOn 55 = .ok (.iconst 1, 1) := by decide +kernel
theorem dX12_rollOn_56 : decode cX12_rollOn 56 = .ok (.dup2, 1) := by decide +kernel
theorem dX12_rollOn_57 : decode cX12_rollOn 57 = .ok (.iaload, 1) := by decide +kernel
theorem dX12_rollOn_58 : decode cX12_rollOn 58 = .ok (.iload_n 2, 1) := by decide +kernel
theorem dX12_rollOn_59 : decode cX12_rollOn 59 = .ok (.iadd, 1) := by decide +kernel
theorem dX12_rollOn_60 : decode cX12_rollOn 60 = .ok (.iastore, 1) := by decide +kernel
theorem dX12_rollOn_61 : decode cX12_rollOn 61 = .ok (.aload_n 0, 1) := by decide +kernel
theorem dX12_rollOn_62 : decode cX12_rollOn 62 = .ok (.getfield 7, 3) := by decide +kernel
theorem dX12_rollOn_65 : decode cX12_rollOn 65 = .ok (.iconst 2, 1) := by decide +kernel
theorem dX12_rollOn_66 : decode cX12_rollOn 66 = .ok (.iload_n 3, 1) := by decide +kernel
theorem dX12_rollOn_67 : decode cX12_rollOn 67 = .ok (.iastore, 1) := by decide +kernel
theorem dX12_rollOn_68 : decode cX12_rollOn 68 = .ok (.aload_n 0, 1) := by decide +kernel
theorem dX12_rollOn_69 : decode cX12_rollOn 69 = .ok (.getfield 7, 3) := by decide +kernel
theorem dX12_rollOn_72 : decode cX12_rollOn 72 = .ok (.iconst 3, 1) := by decide +kernel
theorem dX12_rollOn_73 : decode cX12_rollOn 73 = .ok (.dup2, 1) := by decide +kernel
theorem dX12_rollOn_74 : decode cX12_rollOn 74 = .ok (.iaload, 1) := by decide +kernel
theorem dX12_rollOn_75 : decode cX12_rollOn 75 = .ok (.iload 4, 2) := by decide +kernel
theorem dX12_rollOn_77 : decode cX12_rollOn 77 = .ok (.iadd, 1) := by decide +kernel
theorem dX12_rollOn_78 : decode cX12_rollOn 78 = .ok (.iastore, 1) := by decide +kernel
theorem dX12_rollOn_79 : decode cX12_rollOn 79 = .ok (.iload 4, 2) := by decide +kernel
theorem dX12_rollOn_81 : decode cX12_rollOn 81 = .ok (.ireturn, 1) := by decide +kernel
theorem dX12_roll_0 : decode cX12_roll 0 = .ok (.iload_n 1, 1) := by decide +kernel
theorem dX12_roll_1 : decode cX12_roll 1 = .ok (.i2l, 1) := by decide +kernel
theorem dX12_roll_2 : decode cX12_roll 2 = .ok (.lconst 0, 1) := by decide +kernel
theorem dX12_roll_3 : decode cX12_roll 3 = .ok (.ldc2_w 214, 3) := by decide +kernel
theorem dX12_roll_6 : decode cX12_roll 6 = .ok (.invokestatic 68, 3) := by decide +kernel
theorem dX12_roll_9 : decode cX12_roll 9 = .ok (.ifCond .ne 6, 3) := by decide +kernel
theorem dX12_roll_12 : decode cX12_roll 12 = .ok (.ldc 72, 2) := by decide +kernel
theorem dX12_roll_14 : decode cX12_roll 14 = .ok (.ireturn, 1) := by decide +kernel
theorem dX12_roll_15 : decode cX12_roll 15 = .ok (.aload_n 0, 1) := by decide +kernel
theorem dX12_roll_16 : decode cX12_roll 16 = .ok (.getfield 131, 3) := by decide +kernel
theorem dX12_roll_19 : decode cX12_roll 19 = .ok (.ifCond .eq 25, 3) := by decide +kernel
theorem dX12_roll_22 : decode cX12_roll 22 = .ok (.aload_n 0, 1) := by decide +kernel
theorem dX12_roll_23 : decode cX12_roll 23 = .ok (.aload_n 0, 1) := by decide +kernel
theorem dX12_roll_24 : decode cX12_roll 24 = .ok (.getfield 7, 3) := by decide +kernel
theorem dX12_roll_27 : decode cX12_roll 27 = .ok (.iconst 2, 1) := by decide +kernel
theorem dX12_roll_28 : decode cX12_roll 28 = .ok (.iaload, 1) := by decide +kernel
theorem dX12_roll_29 : decode cX12_roll 29 = .ok (.iload_n 1, 1) := by decide +kernel
theorem dX12_roll_30 : decode cX12_roll 30 = .ok (.aload_n 0, 1) := by decide +kernel
theorem dX12_roll_31 : decode cX12_roll 31 = .ok (.getfield 7, 3) := by decide +kernel
theorem dX12_roll_34 : decode cX12_roll 34 = .ok (.iconst 0, 1) := by decide +kernel
theorem dX12_roll_35 : decode cX12_roll 35 = .ok (.iaload, 1) := by decide +kernel
theorem dX12_roll_36 : decode cX12_roll 36 = .ok (.iconst 1, 1) := by decide +kernel
theorem dX12_roll_37 : decode cX12_roll 37 = .ok (.iadd, 1) := by decide +kernel
theorem dX12_roll_38 : decode cX12_roll 38 = .ok (.invokevirtual 207, 3) := by decide +kernel
theorem dX12_roll_41 : decode cX12_roll 41 = .ok (.ifCond .ge 6, 3) := by decide +kernel
theorem dX12_roll_44 : decode cX12_roll 44 = .ok (.ldc 216, 2) := by decide +kernel
theorem dX12_roll_46 : decode cX12_roll 46 = .ok (.ireturn, 1) := by decide +kernel
theorem dX12_roll_47 : decode cX12_roll 47 = .ok (.aload_n 0, 1) := by decide +kernel
theorem dX12_roll_48 : decode cX12_roll 48 = .ok (.getfield 7, 3) := by decide +kernel
theorem dX12_roll_51 : decode cX12_roll 51 = .ok (.iconst 0, 1) := by decide +kernel
theorem dX12_roll_52 : decode cX12_roll 52 = .ok (.iaload, 1) := by decide +kernel
theorem dX12_roll_53 : decode cX12_roll 53 = .ok (.ldc 200, 2) := by decide +kernel
theorem dX12_roll_55 : decode cX12_roll 55 = .ok (.if_icmp .le 6, 3) := by decide +kernel
theorem dX12_roll_58 : decode cX12_roll 58 = .ok (.ldc 76, 2) := by decide +kernel
theorem dX12_roll_60 : decode cX12_roll 60 = .ok (.ireturn, 1) := by decide +kernel
theorem dX12_roll_61 : decode cX12_roll 61 = .ok (.aload_n 0, 1) := by decide +kernel
theorem dX12_roll_62 : decode cX12_roll 62 = .ok (.invokevirtual 201, 3) := by decide +kernel
theorem dX12_roll_65 : decode cX12_roll 65 = .ok (.aload_n 0, 1) := by decide +kernel
theorem dX12_roll_66 : decode cX12_roll 66 = .ok (.iload_n 1, 1) := by decide +kernel
theorem dX12_roll_67 : decode cX12_roll 67 = .ok (.iconst 1, 1) := by decide +kernel
theorem dX12_roll_68 : decode cX12_roll 68 = .ok (.invokevirtual 217, 3) := by decide +kernel
theorem dX12_roll_71 : decode cX12_roll 71 = .ok (.ireturn, 1) := by decide +kernel
theorem dX12_slack_0 : decode cX12_slack 0 = .ok (.iload_n 1, 1) := by decide +kernel
theorem dX12_slack_1 : decode cX12_slack 1 = .ok (.i2l, 1) := by decide +kernel
theorem dX12_slack_2 : decode cX12_slack 2 = .ok (.lconst 0, 1) := by decide +kernel
theorem dX12_slack_3 : decode cX12_slack 3 = .ok (.aload_n 0, 1) := by decide +kernel
theorem dX12_slack_4 : decode cX12_slack 4 = .ok (.getfield 134, 3) := by decide +kernel
theorem dX12_slack_7 : decode cX12_slack 7 = .ok (.iconst 1, 1) := by decide +kernel
theorem dX12_slack_8 : decode cX12_slack 8 = .ok (.isub, 1) := by decide +kernel
theorem dX12_slack_9 : decode cX12_slack 9 = .ok (.i2l, 1) := by decide +kernel
theorem dX12_slack_10 : decode cX12_slack 10 = .ok (.invokestatic 68, 3) := by decide +kernel
theorem dX12_slack_13 : decode cX12_slack 13 = .ok (.ifCond .ne 6, 3) := by decide +kernel
theorem dX12_slack_16 : decode cX12_slack 16 = .ok (.ldc 190, 2) := by decide +kernel
theorem dX12_slack_18 : decode cX12_slack 18 = .ok (.ireturn, 1) := by decide +kernel
theorem dX12_slack_19 : decode cX12_slack 19 = .ok (.iload_n 2, 1) := by decide +kernel
theorem dX12_slack_20 : decode cX12_slack 20 = .ok (.i2l, 1) := by decide +kernel
theorem dX12_slack_21 : decode cX12_slack 21 = .ok (.lconst 0, 1) := by decide +kernel
theorem dX12_slack_22 : decode cX12_slack 22 = .ok (.ldc2_w 198, 3) := by decide +kernel
theorem dX12_slack_25 : decode cX12_slack 25 = .ok (.invokestatic 68, 3) := by decide +kernel
theorem dX12_slack_28 : decode cX12_slack 28 = .ok (.ifCond .ne 6, 3) := by decide +kernel
theorem dX12_slack_31 : decode cX12_slack 31 = .ok (.ldc 72, 2) := by decide +kernel
theorem dX12_slack_33 : decode cX12_slack 33 = .ok (.ireturn, 1) := by decide +kernel
theorem dX12_slack_34 : decode cX12_slack 34 = .ok (.aload_n 0, 1) := by decide +kernel
theorem dX12_slack_35 : decode cX12_slack 35 = .ok (.getfield 7, 3) := by decide +kernel
theorem dX12_slack_38 : decode cX12_slack 38 = .ok (.iconst 4, 1) := by decide +kernel
theorem dX12_slack_39 : decode cX12_slack 39 = .ok (.iload_n 1, 1) := by decide +kernel
theorem dX12_slack_40 : decode cX12_slack 40 = .ok (.iadd, 1) := by decide +kernel
theorem dX12_slack_41 : decode cX12_slack 41 = .ok (.iaload, 1) := by decide +kernel
theorem dX12_slack_42 : decode cX12_slack 42 = .ok (.istore_n 3, 1) := by decide +kernel
theorem dX12_slack_43 : decode cX12_slack 43 = .ok (.aload_n 0, 1) := by decide +kernel
theorem dX12_slack_44 : decode cX12_slack 44 = .ok (.getfield 7, 3) := by decide +kernel
theorem dX12_slack_47 : decode cX12_slack 47 = .ok (.iconst 4, 1) := by decide +kernel
theorem dX12_slack_48 : decode cX12_slack 48 = .ok (.iload_n 1, 1) := by decide +kernel
theorem dX12_slack_49 : decode cX12_slack 49 = .ok (.iadd, 1) := by decide +kernel
theorem dX12_slack_50 : decode cX12_slack 50 = .ok (.iload_n 2, 1) := by decide +kernel
theorem dX12_slack_51 : decode cX12_slack 51 = .ok (.iastore, 1) := by decide +kernel
theorem dX12_slack_52 : decode cX12_slack 52 = .ok (.iload_n 3, 1) := by decide +kernel
theorem dX12_slack_53 : decode cX12_slack 53 = .ok (.ireturn, 1) := by decide +kernel
theorem dX12_draw_0 : decode cX12_draw 0 = .ok (.aload_n 0, 1) := by decide +kernel
theorem dX12_draw_1 : decode cX12_draw 1 = .ok (.getfield 7, 3) := by decide +kernel
theorem dX12_draw_4 : decode cX12_draw 4 = .ok (.bipush 8, 2) := by decide +kernel
theorem dX12_draw_6 : decode cX12_draw 6 = .ok (.aload_n 0, 1) := by decide +kernel
theorem dX12_draw_7 : decode cX12_draw 7 = .ok (.getfield 7, 3) := by decide +kernel
theorem dX12_draw_10 : decode cX12_draw 10 = .ok (.bipush 8, 2) := by decide +kernel
theorem dX12_draw_12 : decode cX12_draw 12 = .ok (.iaload, 1) := by decide +kernel
theorem dX12_draw_13 : decode cX12_draw 13 = .ok (.i2l, 1) := by decide +kernel
theorem dX12_draw_14 : decode cX12_draw 14 = .ok (.ldc2_w 220, 3) := by decide +kernel
theorem dX12_draw_17 : decode cX12_draw 17 = .ok (.lmul, 1) := by decide +kernel
theorem dX12_draw_18 : decode cX12_draw 18 = .ok (.ldc2_w 222, 3) := by decide +kernel
theorem dX12_draw_21 : decode cX12_draw 21 = .ok (.ladd, 1) := by decide +kernel
theorem dX12_draw_22 : decode cX12_draw 22 = .ok (.ldc2_w 224, 3) := by decide +kernel
theorem dX12_draw_25 : decode cX12_draw 25 = .ok (.lrem, 1) := by decide +kernel
theorem dX12_draw_26 : decode cX12_draw 26 = .ok (.l2i, 1) := by decide +kernel
theorem dX12_draw_27 : decode cX12_draw 27 = .ok (.iastore, 1) := by decide +kernel
theorem dX12_draw_28 : decode cX12_draw 28 = .ok (.aload_n 0, 1) := by decide +kernel
theorem dX12_draw_29 : decode cX12_draw 29 = .ok (.getfield 7, 3) := by decide +kernel
theorem dX12_draw_32 : decode cX12_draw 32 = .ok (.bipush 8, 2) := by decide +kernel
theorem dX12_draw_34 : decode cX12_draw 34 = .ok (.iaload, 1) := by decide +kernel
theorem dX12_draw_35 : decode cX12_draw 35 = .ok (.ldc 226, 2) := by decide +kernel
theorem dX12_draw_37 : decode cX12_draw 37 = .ok (.idiv, 1) := by decide +kernel
theorem dX12_draw_38 : decode cX12_draw 38 = .ok (.iload_n 1, 1) := by decide +kernel
theorem dX12_draw_39 : decode cX12_draw 39 = .ok (.irem, 1) := by decide +kernel
theorem dX12_draw_40 : decode cX12_draw 40 = .ok (.ireturn, 1) := by decide +kernel
theorem dX12_drift_0 : decode cX12_drift 0 = .ok (.iload_n 1, 1) := by decide +kernel
theorem dX12_drift_1 : decode cX12_drift 1 = .ok (.i2l, 1) := by decide +kernel
theorem dX12_drift_2 : decode cX12_drift 2 = .ok (.lconst 1, 1) := by decide +kernel
theorem dX12_drift_3 : decode cX12_drift 3 = .ok (.ldc2_w 227, 3) := by decide +kernel
theorem dX12_drift_6 : decode cX12_drift 6 = .ok (.invokestatic 68, 3) := by decide +kernel
theorem dX12_drift_9 : decode cX12_drift 9 = .ok (.ifCond .ne 6, 3) := by decide +kernel
theorem dX12_drift_12 : decode cX12_drift 12 = .ok (.ldc 72, 2) := by decide +kernel
theorem dX12_drift_14 : decode cX12_drift 14 = .ok (.ireturn, 1) := by decide +kernel
theorem dX12_drift_15 : decode cX12_drift 15 = .ok (.aload_n 0, 1) := by decide +kernel
theorem dX12_drift_16 : decode cX12_drift 16 = .ok (.getfield 131, 3) := by decide +kernel
theorem dX12_drift_19 : decode cX12_drift 19 = .ok (.ifCond .ne 6, 3) := by decide +kernel
theorem dX12_drift_22 : decode cX12_drift 22 = .ok (.ldc 216, 2) := by decide +kernel
theorem dX12_drift_24 : decode cX12_drift 24 = .ok (.ireturn, 1) := by decide +kernel
theorem dX12_drift_25 : decode cX12_drift 25 = .ok (.aload_n 0, 1) := by decide +kernel
theorem dX12_drift_26 : decode cX12_drift 26 = .ok (.getfield 7, 3) := by decide +kernel
theorem dX12_drift_29 : decode cX12_drift 29 = .ok (.iconst 0, 1) := by decide +kernel
theorem dX12_drift_30 : decode cX12_drift 30 = .ok (.iaload, 1) := by decide +kernel
theorem dX12_drift_31 : decode cX12_drift 31 = .ok (.ldc 200, 2) := by decide +kernel
theorem dX12_drift_33 : decode cX12_drift 33 = .ok (.if_icmp .le 6, 3) := by decide +kernel
theorem dX12_drift_36 : decode cX12_drift 36 = .ok (.ldc 76, 2) := by decide +kernel
theorem dX12_drift_38 : decode cX12_drift 38 = .ok (.ireturn, 1) := by decide +kernel
theorem dX12_drift_39 : decode cX12_drift 39 = .ok (.iconst 0, 1) := by decide +kernel
theorem dX12_drift_40 : decode cX12_drift 40 = .ok (.istore_n 2, 1) := by decide +kernel
theorem dX12_drift_41 : decode cX12_drift 41 = .ok (.iload_n 2, 1) := by decide +kernel
theorem dX12_drift_42 : decode cX12_drift 42 = .ok (.iload_n 1, 1) := by decide +kernel
theorem dX12_drift_43 : decode cX12_drift 43 = .ok (.if_icmp .ge 71, 3) := by decide +kernel
theorem dX12_drift_46 : decode cX12_drift 46 = .ok (.aload_n 0, 1) := by decide +kernel
theorem dX12_drift_47 : decode cX12_drift 47 = .ok (.invokevirtual 201, 3) := by decide +kernel
theorem dX12_drift_50 : decode cX12_drift 50 = .ok (.aload_n 0, 1) := by decide +kernel
theorem dX12_drift_51 : decode cX12_drift 51 = .ok (.bipush 8, 2) := by decide +kernel
theorem dX12_drift_53 : decode cX12_drift 53 = .ok (.invokevirtual 229, 3) := by decide +kernel
theorem dX12_drift_56 : decode cX12_drift 56 = .ok (.ifCond .ne 7, 3) := by decide +kernel
theorem dX12_drift_59 : decode cX12_drift 59 = .ok (.iconst 0, 1) := by decide +kernel
theorem dX12_drift_60 : decode cX12_drift 60 = .ok (.goto 4, 3) := by decide +kernel
theorem dX12_drift_63 : decode cX12_drift 63 = .ok (.iconst 1, 1) := by decide +kernel
theorem dX12_drift_64 : decode cX12_drift 64 = .ok (.istore_n 3, 1) := by decide +kernel
theorem dX12_drift_65 : decode cX12_drift 65 = .ok (.aload_n 0, 1) := by decide +kernel
theorem dX12_drift_66 : decode cX12_drift 66 = .ok (.iconst 3, 1) := by decide +kernel
theorem dX12_drift_67 : decode cX12_drift 67 = .ok (.invokevirtual 229, 3) := by decide +kernel
theorem dX12_drift_70 : decode cX12_drift 70 = .ok (.istore 4, 2) := by decide +kernel
theorem dX12_drift_72 : decode cX12_drift 72 = .ok (.aload_n 0, 1) := by decide +kernel
theorem dX12_drift_73 : decode cX12_drift 73 = .ok (.aload_n 0, 1) := by decide +kernel
theorem dX12_drift_74 : decode cX12_drift 74 = .ok (.aload_n 0, 1) := by decide +kernel
theorem dX12_drift_75 : decode cX12_drift 75 = .ok (.getfield 7, 3) := by decide +kernel
theorem dX12_drift_78 : decode cX12_drift 78 = .ok (.iconst 2, 1) := by decide +kernel
theorem dX12_drift_79 : decode cX12_drift 79 = .ok (.iaload, 1) := by decide +kernel
theorem dX12_drift_80 : decode cX12_drift 80 = .ok (.iload 4, 2) := by decide +kernel
theorem dX12_drift_82 : decode cX12_drift 82 = .ok (.aload_n 0, 1) := by decide +kernel
theorem dX12_drift_83 : decode cX12_drift 83 = .ok (.getfield 7, 3) := by decide +kernel
theorem dX12_drift_86 : decode cX12_drift 86 = .ok (.iconst 0, 1) := by decide +kernel
theorem dX12_drift_87 : decode cX12_drift 87 = .ok (.iaload, 1) := by decide +kernel
theorem dX12_drift_88 : decode cX12_drift 88 = .ok (.iconst 1, 1) := by decide +kernel
theorem dX12_drift_89 : decode cX12_drift 89 = .ok (.iadd, 1) := by decide +kernel
theorem dX12_drift_90 : decode cX12_drift 90 = .ok (.invokevirtual 207, 3) := by decide +kernel
theorem dX12_drift_93 : decode cX12_drift 93 = .ok (.ifCond .ge 7, 3) := by decide +kernel
theorem dX12_drift_96 : decode cX12_drift 96 = .ok (.iconst 0, 1) := by decide +kernel
theorem dX12_drift_97 : decode cX12_drift 97 = .ok (.goto 5, 3) := by decide +kernel
theorem dX12_drift_100 : decode cX12_drift 100 = .ok (.iload 4, 2) := by decide +kernel
theorem dX12_drift_102 : decode cX12_drift 102 = .ok (.iload_n 3, 1) := by decide +kernel
theorem dX12_drift_103 : decode cX12_drift 103 = .ok (.invokevirtual 217, 3) := by decide +kernel
theorem dX12_drift_106 : decode cX12_drift 106 = .ok (.istore 5, 2) := by decide +kernel
theorem dX12_drift_108 : decode cX12_drift 108 = .ok (.iinc 2 1, 3) := by decide +kernel
theorem dX12_drift_111 : decode cX12_drift 111 = .ok (.goto (-70), 3) := by decide +kernel
theorem dX12_drift_114 : decode cX12_drift 114 = .ok (.aload_n 0, 1) := by decide +kernel
theorem dX12_drift_115 : decode cX12_drift 115 = .ok (.getfield 7, 3) := by decide +kernel
theorem dX12_drift_118 : decode cX12_drift 118 = .ok (.iconst 2, 1) := by decide +kernel
theorem dX12_drift_119 : decode cX12_drift 119 = .ok (.iaload, 1) := by decide +kernel
theorem dX12_drift_120 : decode cX12_drift 120 = .ok (.ireturn, 1) := by decide +kernel
theorem dX12_undo_0 : decode cX12_undo 0 = .ok (.iload_n 1, 1) := by decide +kernel
theorem dX12_undo_1 : decode cX12_undo 1 = .ok (.i2l, 1) := by decide +kernel
theorem dX12_undo_2 : decode cX12_undo 2 = .ok (.lconst 1, 1) := by decide +kernel
theorem dX12_undo_3 : decode cX12_undo 3 = .ok (.ldc2_w 232, 3) := by decide +kernel
theorem dX12_undo_6 : decode cX12_undo 6 = .ok (.invokestatic 68, 3) := by decide +kernel
theorem dX12_undo_9 : decode cX12_undo 9 = .ok (.ifCond .ne 6, 3) := by decide +kernel
theorem dX12_undo_12 : decode cX12_undo 12 = .ok (.ldc 72, 2) := by decide +kernel
theorem dX12_undo_14 : decode cX12_undo 14 = .ok (.ireturn, 1) := by decide +kernel
theorem dX12_undo_15 : decode cX12_undo 15 = .ok (.iload_n 1, 1) := by decide +kernel
theorem dX12_undo_16 : decode cX12_undo 16 = .ok (.aload_n 0, 1) := by decide +kernel
theorem dX12_undo_17 : decode cX12_undo 17 = .ok (.getfield 149, 3) := by decide +kernel
theorem dX12_undo_20 : decode cX12_undo 20 = .ok (.if_icmp .le 6, 3) := by decide +kernel
theorem dX12_undo_23 : decode cX12_undo 23 = .ok (.ldc 216, 2) := by decide +kernel
theorem dX12_undo_25 : decode cX12_undo 25 = .ok (.ireturn, 1) := by decide +kernel
theorem dX12_undo_26 : decode cX12_undo 26 = .ok (.aload_n 0, 1) := by decide +kernel
theorem dX12_undo_27 : decode cX12_undo 27 = .ok (.dup, 1) := by decide +kernel
theorem dX12_undo_28 : decode cX12_undo 28 = .ok (.getfield 149, 3) := by decide +kernel
theorem dX12_undo_31 : decode cX12_undo 31 = .ok (.iload_n 1, 1) := by decide +kernel
theorem dX12_undo_32 : decode cX12_undo 32 = .ok (.isub, 1) := by decide +kernel
theorem dX12_undo_33 : decode cX12_undo 33 = .ok (.putfield 149, 3) := by decide +kernel
theorem dX12_undo_36 : decode cX12_undo 36 = .ok (.iconst 0, 1) := by decide +kernel
theorem dX12_undo_37 : decode cX12_undo 37 = .ok (.istore_n 2, 1) := by decide +kernel
theorem dX12_undo_38 : decode cX12_undo 38 = .ok (.iload_n 2, 1) := by decide +kernel
theorem dX12_undo_39 : decode cX12_undo 39 = .ok (.iconst 4, 1) := by decide +kernel
theorem dX12_undo_40 : decode cX12_undo 40 = .ok (.if_icmp .ge 28, 3) := by decide +kernel
theorem dX12_undo_43 : decode cX12_undo 43 = .ok (.aload_n 0, 1) := by decide +kernel
theorem dX12_undo_44 : decode cX12_undo 44 = .ok (.getfield 7, 3) := by decide +kernel
theorem dX12_undo_47 : decode cX12_undo 47 = .ok (.iload_n 2, 1) := by decide +kernel
theorem dX12_undo_48 : decode cX12_undo 48 = .ok (.aload_n 0, 1) := by decide +kernel
theorem dX12_undo_49 : decode cX12_undo 49 = .ok (.getfield 36, 3) := by decide +kernel
theorem dX12_undo_52 : decode cX12_undo 52 = .ok (.iconst 4, 1) := by decide +kernel
theorem dX12_undo_53 : decode cX12_undo 53 = .ok (.aload_n 0, 1) := by decide +kernel
theorem dX12_undo_54 : decode cX12_undo 54 = .ok (.getfield 149, 3) := by decide +kernel
theorem dX12_undo_57 : decode cX12_undo 57 = .ok (.imul, 1) := by decide +kernel
theorem dX12_undo_58 : decode cX12_undo 58 = .ok (.iload_n 2, 1) := by decide +kernel
theorem dX12_undo_59 : decode cX12_undo 59 = .ok (.iadd, 1) := by decide +kernel
theorem dX12_undo_60 : decode cX12_undo 60 = .ok (.iaload, 1) := by decide +kernel
theorem dX12_undo_61 : decode cX12_undo 61 = .ok (.iastore, 1) := by decide +kernel
theorem dX12_undo_62 : decode cX12_undo 62 = .ok (.iinc 2 1, 3) := by decide +kernel
theorem dX12_undo_65 : decode cX12_undo 65 = .ok (.goto (-27), 3) := by decide +kernel
theorem dX12_undo_68 : decode cX12_undo 68 = .ok (.aload_n 0, 1) := by decide +kernel
theorem dX12_undo_69 : decode cX12_undo 69 = .ok (.getfield 7, 3) := by decide +kernel
theorem dX12_undo_72 : decode cX12_undo 72 = .ok (.iconst 0, 1) := by decide +kernel
theorem dX12_undo_73 : decode cX12_undo 73 = .ok (.iaload, 1) := by decide +kernel
theorem dX12_undo_74 : decode cX12_undo 74 = .ok (.ireturn, 1) := by decide +kernel
theorem dX12_cracks_0 : decode cX12_cracks 0 = .ok (.iload_n 1, 1) := by decide +kernel
theorem dX12_cracks_1 : decode cX12_cracks 1 = .ok (.i2l, 1) := by decide +kernel
theorem dX12_cracks_2 : decode cX12_cracks 2 = .ok (.lconst 0, 1) := by decide +kernel
theorem dX12_cracks_3 : decode cX12_cracks 3 = .ok (.aload_n 0, 1) := by decide +kernel
theorem dX12_cracks_4 : decode cX12_cracks 4 = .ok (.getfield 134, 3) := by decide +kernel
theorem dX12_cracks_7 : decode cX12_cracks 7 = .ok (.iconst 1, 1) := by decide +kernel
theorem dX12_cracks_8 : decode cX12_cracks 8 = .ok (.isub, 1) := by decide +kernel
theorem dX12_cracks_9 : decode cX12_cracks 9 = .ok (.i2l, 1) := by decide +kernel
theorem dX12_cracks_10 : decode cX12_cracks 10 = .ok (.invokestatic 68, 3) := by decide +kernel
theorem dX12_cracks_13 : decode cX12_cracks 13 = .ok (.ifCond .ne 6, 3) := by decide +kernel
theorem dX12_cracks_16 : decode cX12_cracks 16 = .ok (.ldc 190, 2) := by decide +kernel
theorem dX12_cracks_18 : decode cX12_cracks 18 = .ok (.ireturn, 1) := by decide +kernel
theorem dX12_cracks_19 : decode cX12_cracks 19 = .ok (.iconst 0, 1) := by decide +kernel
theorem dX12_cracks_20 : decode cX12_cracks 20 = .ok (.istore_n 2, 1) := by decide +kernel
theorem dX12_cracks_21 : decode cX12_cracks 21 = .ok (.iload_n 2, 1) := by decide +kernel
theorem dX12_cracks_22 : decode cX12_cracks 22 = .ok (.aload_n 0, 1) := by decide +kernel
theorem dX12_cracks_23 : decode cX12_cracks 23 = .ok (.getfield 33, 3) := by decide +kernel
theorem dX12_cracks_26 : decode cX12_cracks 26 = .ok (.if_icmp .ge 34, 3) := by decide +kernel
theorem dX12_cracks_29 : decode cX12_cracks 29 = .ok (.aload_n 0, 1) := by decide +kernel
theorem dX12_cracks_30 : decode cX12_cracks 30 = .ok (.iload_n 1, 1) := by decide +kernel
theorem dX12_cracks_31 : decode cX12_cracks 31 = .ok (.aload_n 0, 1) := by decide +kernel
theorem dX12_cracks_32 : decode cX12_cracks 32 = .ok (.getfield 7, 3) := by decide +kernel
theorem dX12_cracks_35 : decode cX12_cracks 35 = .ok (.iconst 1, 1) := by decide +kernel
theorem dX12_cracks_36 : decode cX12_cracks 36 = .ok (.iaload, 1) := by decide +kernel
theorem dX12_cracks_37 : decode cX12_cracks 37 = .ok (.iload_n 2, 1) := by decide +kernel
theorem dX12_cracks_38 : decode cX12_cracks 38 = .ok (.iadd, 1) := by decide +kernel
theorem dX12_cracks_39 : decode cX12_cracks 39 = .ok (.invokevirtual 177, 3) := by decide +kernel
theorem dX12_cracks_42 : decode cX12_cracks 42 = .ok (.ifCond .eq 12, 3) := by decide +kernel
theorem dX12_cracks_45 : decode cX12_cracks 45 = .ok (.aload_n 0, 1) := by decide +kernel
theorem dX12_cracks_46 : decode cX12_cracks 46 = .ok (.getfield 7, 3) := by decide +kernel
theorem dX12_cracks_49 : decode cX12_cracks 49 = .ok (.iconst 1, 1) := by decide +kernel
theorem dX12_cracks_50 : decode cX12_cracks 50 = .ok (.iaload, 1) := by decide +kernel
theorem dX12_cracks_51 : decode cX12_cracks 51 = .ok (.iload_n 2, 1) := by decide +kernel
theorem dX12_cracks_52 : decode cX12_cracks 52 = .ok (.iadd, 1) := by decide +kernel
theorem dX12_cracks_53 : decode cX12_cracks 53 = .ok (.ireturn, 1) := by decide +kernel
theorem dX12_cracks_54 : decode cX12_cracks 54 = .ok (.iinc 2 1, 3) := by decide +kernel
theorem dX12_cracks_57 : decode cX12_cracks 57 = .ok (.goto (-36), 3) := by decide +kernel
theorem dX12_cracks_60 : decode cX12_cracks 60 = .ok (.iconst (-1), 1) := by decide +kernel
theorem dX12_cracks_61 : decode cX12_cracks 61 = .ok (.ireturn, 1) := by decide +kernel
theorem dX12_worst_0 : decode cX12_worst 0 = .ok (.iconst (-1), 1) := by decide +kernel
theorem dX12_worst_1 : decode cX12_worst 1 = .ok (.istore_n 1, 1) := by decide +kernel
theorem dX12_worst_2 : decode cX12_worst 2 = .ok (.iconst 0, 1) := by decide +kernel
theorem dX12_worst_3 : decode cX12_worst 3 = .ok (.istore_n 2, 1) := by decide +kernel
theorem dX12_worst_4 : decode cX12_worst 4 = .ok (.iconst 0, 1) := by decide +kernel
theorem dX12_worst_5 : decode cX12_worst 5 = .ok (.istore_n 3, 1) := by decide +kernel
theorem dX12_worst_6 : decode cX12_worst 6 = .ok (.iload_n 3, 1) := by decide +kernel
theorem dX12_worst_7 : decode cX12_worst 7 = .ok (.aload_n 0, 1) := by decide +kernel
theorem dX12_worst_8 : decode cX12_worst 8 = .ok (.getfield 134, 3) := by decide +kernel
theorem dX12_worst_11 : decode cX12_worst 11 = .ok (.if_icmp .ge 36, 3) := by decide +kernel
theorem dX12_worst_14 : decode cX12_worst 14 = .ok (.aload_n 0, 1) := by decide +kernel
theorem dX12_worst_15 : decode cX12_worst 15 = .ok (.iload_n 3, 1) := by decide +kernel
theorem dX12_worst_16 : decode cX12_worst 16 = .ok (.invokevirtual 195, 3) := by decide +kernel
theorem dX12_worst_19 : decode cX12_worst 19 = .ok (.aload_n 0, 1) := by decide +kernel
theorem dX12_worst_20 : decode cX12_worst 20 = .ok (.getfield 7, 3) := by decide +kernel
theorem dX12_worst_23 : decode cX12_worst 23 = .ok (.iconst 4, 1) := by decide +kernel
theorem dX12_worst_24 : decode cX12_worst 24 = .ok (.iload_n 3, 1) := by decide +kernel
theorem dX12_worst_25 : decode cX12_worst 25 = .ok (.iadd, 1) := by decide +kernel
theorem dX12_worst_26 : decode cX12_worst 26 = .ok (.iaload, 1) := by decide +kernel
theorem dX12_worst_27 : decode cX12_worst 27 = .ok (.isub, 1) := by decide +kernel
theorem dX12_worst_28 : decode cX12_worst 28 = .ok (.istore 4, 2) := by decide +kernel
theorem dX12_worst_30 : decode cX12_worst 30 = .ok (.iload 4, 2) := by decide +kernel
theorem dX12_worst_32 : decode cX12_worst 32 = .ok (.iload_n 2, 1) := by decide +kernel
theorem dX12_worst_33 : decode cX12_worst 33 = .ok (.if_icmp .le 8, 3) := by decide +kernel
theorem dX12_worst_36 : decode cX12_worst 36 = .ok (.iload_n 3, 1) := by decide +kernel
theorem dX12_worst_37 : decode cX12_worst 37 = .ok (.istore_n 1, 1) := by decide +kernel
theorem dX12_worst_38 : decode cX12_worst 38 = .ok (.iload 4, 2) := by decide +kernel
theorem dX12_worst_40 : decode cX12_worst 40 = .ok (.istore_n 2, 1) := by decide +kernel
theorem dX12_worst_41 : decode cX12_worst 41 = .ok (.iinc 3 1, 3) := by decide +kernel
theorem dX12_worst_44 : decode cX12_worst 44 = .ok (.goto (-38), 3) := by decide +kernel
theorem dX12_worst_47 : decode cX12_worst 47 = .ok (.iload_n 1, 1) := by decide +kernel
theorem dX12_worst_48 : decode cX12_worst 48 = .ok (.ireturn, 1) := by decide +kernel
theorem dX12_flows_0 : decode cX12_flows 0 = .ok (.iload_n 1, 1) := by decide +kernel
theorem dX12_flows_1 : decode cX12_flows 1 = .ok (.istore_n 3, 1) := by decide +kernel
theorem dX12_flows_2 : decode cX12_flows 2 = .ok (.aload_n 0, 1) := by decide +kernel
theorem dX12_flows_3 : decode cX12_flows 3 = .ok (.iload_n 1, 1) := by decide +kernel
theorem dX12_flows_4 : decode cX12_flows 4 = .ok (.iload_n 2, 1) := by decide +kernel
theorem dX12_flows_5 : decode cX12_flows 5 = .ok (.invokevirtual 159, 3) := by decide +kernel
theorem dX12_flows_8 : decode cX12_flows 8 = .ok (.istore 4, 2) := by decide +kernel
theorem dX12_flows_10 : decode cX12_flows 10 = .ok (.iload_n 1, 1) := by decide +kernel
theorem dX12_flows_11 : decode cX12_flows 11 = .ok (.iconst 1, 1) := by decide +kernel
theorem dX12_flows_12 : decode cX12_flows 12 = .ok (.isub, 1) := by decide +kernel
theorem dX12_flows_13 : decode cX12_flows 13 = .ok (.istore 5, 2) := by decide +kernel
theorem dX12_flows_15 : decode cX12_flows 15 = .ok (.iload 5, 2) := by decide +kernel
theorem dX12_flows_17 : decode cX12_flows 17 = .ok (.iload_n 1, 1) := by decide +kernel
theorem dX12_flows_18 : decode cX12_flows 18 = .ok (.iconst 1, 1) := by decide +kernel
theorem dX12_flows_19 : decode cX12_flows 19 = .ok (.iadd, 1) := by decide +kernel
theorem dX12_flows_20 : decode cX12_flows 20 = .ok (.if_icmp .gt 42, 3) := by decide +kernel
theorem dX12_flows_23 : decode cX12_flows 23 = .ok (.aload_n 0, 1) := by decide +kernel
theorem dX12_flows_24 : decode cX12_flows 24 = .ok (.iload 5, 2) := by decide +kernel
theorem dX12_flows_26 : decode cX12_flows 26 = .ok (.invokevirtual 186, 3) := by decide +kernel
theorem dX12_flows_29 : decode cX12_flows 29 = .ok (.ifCond .eq 27, 3) := by decide +kernel
theorem dX12_flows_32 : decode cX12_flows 32 = .ok (.aload_n 0, 1) := by decide +kernel
theorem dX12_flows_33 : decode cX12_flows 33 = .ok (.iload 5, 2) := by decide +kernel
theorem dX12_flows_35 : decode cX12_flows 35 = .ok (.iload_n 2, 1) := by decide +kernel
theorem dX12_flows_36 : decode cX12_flows 36 = .ok (.invokevirtual 159, 3) := by decide +kernel
theorem dX12_flows_39 : decode cX12_flows 39 = .ok (.iload 4, 2) := by decide +kernel
theorem dX12_flows_41 : decode cX12_flows 41 = .ok (.if_icmp .ge 15, 3) := by decide +kernel
theorem dX12_flows_44 : decode cX12_flows 44 = .ok (.iload 5, 2) := by decide +kernel
theorem dX12_flows_46 : decode cX12_flows 46 = .ok (.istore_n 3, 1) := by decide +kernel
theorem dX12_flows_47 : decode cX12_flows 47 = .ok (.aload_n 0, 1) := by decide +kernel
theorem dX12_flows_48 : decode cX12_flows 48 = .ok (.iload 5, 2) := by decide +kernel
theorem dX12_flows_50 : decode cX12_flows 50 = .ok (.iload_n 2, 1) := by decide +kernel
theorem dX12_flows_51 : decode cX12_flows 51 = .ok (.invokevirtual 159, 3) := by decide +kernel
theorem dX12_flows_54 : decode cX12_flows 54 = .ok (.istore 4, 2) := by decide +kernel
theorem dX12_flows_56 : decode cX12_flows 56 = .ok (.iinc 5 2, 3) := by decide +kernel
theorem dX12_flows_59 : decode cX12_flows 59 = .ok (.goto (-44), 3) := by decide +kernel
theorem dX12_flows_62 : decode cX12_flows 62 = .ok (.iload_n 3, 1) := by decide +kernel
theorem dX12_flows_63 : decode cX12_flows 63 = .ok (.ireturn, 1) := by decide +kernel
theorem dX12_water_0 : decode cX12_water 0 = .ok (.aload_n 0, 1) := by decide +kernel
theorem dX12_water_1 : decode cX12_water 1 = .ok (.iload_n 1, 1) := by decide +kernel
theorem dX12_water_2 : decode cX12_water 2 = .ok (.invokevirtual 186, 3) := by decide +kernel
theorem dX12_water_5 : decode cX12_water 5 = .ok (.ifCond .ne 6, 3) := by decide +kernel
theorem dX12_water_8 : decode cX12_water 8 = .ok (.ldc 190, 2) := by decide +kernel
theorem dX12_water_10 : decode cX12_water 10 = .ok (.ireturn, 1) := by decide +kernel
theorem dX12_water_11 : decode cX12_water 11 = .ok (.iload_n 2, 1) := by decide +kernel
theorem dX12_water_12 : decode cX12_water 12 = .ok (.i2l, 1) := by decide +kernel
theorem dX12_water_13 : decode cX12_water 13 = .ok (.lconst 0, 1) := by decide +kernel
theorem dX12_water_14 : decode cX12_water 14 = .ok (.ldc2_w 227, 3) := by decide +kernel
theorem dX12_water_17 : decode cX12_water 17 = .ok (.invokestatic 68, 3) := by decide +kernel
theorem dX12_water_20 : decode cX12_water 20 = .ok (.ifCond .ne 6, 3) := by decide +kernel
theorem dX12_water_23 : decode cX12_water 23 = .ok (.ldc 72, 2) := by decide +kernel
theorem dX12_water_25 : decode cX12_water 25 = .ok (.ireturn, 1) := by decide +kernel
theorem dX12_water_26 : decode cX12_water 26 = .ok (.iload_n 1, 1) := by decide +kernel
theorem dX12_water_27 : decode cX12_water 27 = .ok (.istore_n 3, 1) := by decide +kernel
theorem dX12_water_28 : decode cX12_water 28 = .ok (.iconst 1, 1) := by decide +kernel
theorem dX12_water_29 : decode cX12_water 29 = .ok (.istore 4, 2) := by decide +kernel
theorem dX12_water_31 : decode cX12_water 31 = .ok (.iload 4, 2) := by decide +kernel
theorem dX12_water_33 : decode cX12_water 33 = .ok (.iload_n 2, 1) := by decide +kernel
theorem dX12_water_34 : decode cX12_water 34 = .ok (.if_icmp .gt 24, 3) := by decide +kernel
theorem dX12_water_37 : decode cX12_water 37 = .ok (.aload_n 0, 1) := by decide +kernel
theorem dX12_water_38 : decode cX12_water 38 = .ok (.iload_n 3, 1) := by decide +kernel
theorem dX12_water_39 : decode cX12_water 39 = .ok (.aload_n 0, 1) := by decide +kernel
theorem dX12_water_40 : decode cX12_water 40 = .ok (.getfield 7, 3) := by decide +kernel
theorem dX12_water_43 : decode cX12_water 43 = .ok (.iconst 1, 1) := by decide +kernel
theorem dX12_water_44 : decode cX12_water 44 = .ok (.iaload, 1) := by decide +kernel
theorem dX12_water_45 : decode cX12_water 45 = .ok (.iload 4, 2) := by decide +kernel
theorem dX12_water_47 : decode cX12_water 47 = .ok (.iadd, 1) := by decide +kernel
theorem dX12_water_48 : decode cX12_water 48 = .ok (.invokevirtual 234, 3) := by decide +kernel
theorem dX12_water_51 : decode cX12_water 51 = .ok (.istore_n 3, 1) := by decide +kernel
theorem dX12_water_52 : decode cX12_water 52 = .ok (.iinc 4 1, 3) := by decide +kernel
theorem dX12_water_55 : decode cX12_water 55 = .ok (.goto (-24), 3) := by decide +kernel
theorem dX12_water_58 : decode cX12_water 58 = .ok (.iload_n 3, 1) := by decide +kernel
theorem dX12_water_59 : decode cX12_water 59 = .ok (.ireturn, 1) := by decide +kernel
theorem dX12_ground_0 : decode cX12_ground 0 = .ok (.iconst 0, 1) := by decide +kernel
theorem dX12_ground_1 : decode cX12_ground 1 = .ok (.istore_n 3, 1) := by decide +kernel
theorem dX12_ground_2 : decode cX12_ground 2 = .ok (.iconst 0, 1) := by decide +kernel
theorem dX12_ground_3 : decode cX12_ground 3 = .ok (.istore 4, 2) := by decide +kernel
theorem dX12_ground_5 : decode cX12_ground 5 = .ok (.iload 4, 2) := by decide +kernel
theorem dX12_ground_7 : decode cX12_ground 7 = .ok (.aload_n 0, 1) := by decide +kernel
theorem dX12_ground_8 : decode cX12_ground 8 = .ok (.getfield 33, 3) := by decide +kernel
theorem dX12_ground_11 : decode cX12_ground 11 = .ok (.if_icmp .ge 71, 3) := by decide +kernel
theorem dX12_ground_14 : decode cX12_ground 14 = .ok (.aload_n 0, 1) := by decide +kernel
theorem dX12_ground_15 : decode cX12_ground 15 = .ok (.iload_n 1, 1) := by decide +kernel
theorem dX12_ground_16 : decode cX12_ground 16 = .ok (.aload_n 0, 1) := by decide +kernel
theorem dX12_ground_17 : decode cX12_ground 17 = .ok (.getfield 7, 3) := by decide +kernel
theorem dX12_ground_20 : decode cX12_ground 20 = .ok (.iconst 1, 1) := by decide +kernel
theorem dX12_ground_21 : decode cX12_ground 21 = .ok (.iaload, 1) := by decide +kernel
theorem dX12_ground_22 : decode cX12_ground 22 = .ok (.iload 4, 2) := by decide +kernel
theorem dX12_ground_24 : decode cX12_ground 24 = .ok (.iadd, 1) := by decide +kernel
theorem dX12_ground_25 : decode cX12_ground 25 = .ok (.invokevirtual 162, 3) := by decide +kernel
theorem dX12_ground_28 : decode cX12_ground 28 = .ok (.istore 5, 2) := by decide +kernel
theorem dX12_ground_30 : decode cX12_ground 30 = .ok (.iload_n 3, 1) := by decide +kernel
theorem dX12_ground_31 : decode cX12_ground 31 = .ok (.iload_n 2, 1) := by decide +kernel
theorem dX12_ground_32 : decode cX12_ground 32 = .ok (.iconst 2, 1) := by decide +kernel
theorem dX12_ground_33 : decode cX12_ground 33 = .ok (.if_icmp .ne 11, 3) := by decide +kernel
theorem dX12_ground_36 : decode cX12_ground 36 = .ok (.iload 5, 2) := by decide +kernel
theorem dX12_ground_38 : decode cX12_ground 38 = .ok (.invokestatic 165, 3) := by decide +kernel
theorem dX12_ground_41 : decode cX12_ground 41 = .ok (.goto 33, 3) := by decide +kernel
theorem dX12_ground_44 : decode cX12_ground 44 = .ok (.iload_n 2, 1) := by decide +kernel
theorem dX12_ground_45 : decode cX12_ground 45 = .ok (.ifCond .ne 16, 3) := by decide +kernel
theorem dX12_ground_48 : decode cX12_ground 48 = .ok (.iload 5, 2) := by decide +kernel
theorem dX12_ground_50 : decode cX12_ground 50 = .ok (.ifCond .ge 7, 3) := by decide +kernel
theorem dX12_ground_53 : decode cX12_ground 53 = .ok (.iconst 1, 1) := by decide +kernel
theorem dX12_ground_54 : decode cX12_ground 54 = .ok (.goto 17, 3) := by decide +kernel
theorem dX12_ground_57 : decode cX12_ground 57 = .ok (.iconst 0, 1) := by decide +kernel
theorem dX12_ground_58 : decode cX12_ground 58 = .ok (.goto 13, 3) := by decide +kernel
theorem dX12_ground_61 : decode cX12_ground 61 = .ok (.iload 5, 2) := by decide +kernel
theorem dX12_ground_63 : decode cX12_ground 63 = .ok (.ifCond .le 7, 3) := by decide +kernel
theorem dX12_ground_66 : decode cX12_ground 66 = .ok (.iconst 1, 1) := by decide +kernel
theorem dX12_ground_67 : decode cX12_ground 67 = .ok (.goto 4, 3) := by decide +kernel
theorem dX12_ground_70 : decode cX12_ground 70 = .ok (.iconst 0, 1) := by decide +kernel
theorem dX12_ground_71 : decode cX12_ground 71 = .ok (.invokestatic 173, 3) := by decide +kernel
theorem dX12_ground_74 : decode cX12_ground 74 = .ok (.iadd, 1) := by decide +kernel
theorem dX12_ground_75 : decode cX12_ground 75 = .ok (.istore_n 3, 1) := by decide +kernel
theorem dX12_ground_76 : decode cX12_ground 76 = .ok (.iinc 4 1, 3) := by decide +kernel
theorem dX12_ground_79 : decode cX12_ground 79 = .ok (.goto (-74), 3) := by decide +kernel
theorem dX12_ground_82 : decode cX12_ground 82 = .ok (.iload_n 3, 1) := by decide +kernel
theorem dX12_ground_83 : decode cX12_ground 83 = .ok (.ireturn, 1) := by decide +kernel
theorem dX12_mill_0 : decode cX12_mill 0 = .ok (.iload_n 1, 1) := by decide +kernel
theorem dX12_mill_1 : decode cX12_mill 1 = .ok (.i2l, 1) := by decide +kernel
theorem dX12_mill_2 : decode cX12_mill 2 = .ok (.lconst 0, 1) := by decide +kernel
theorem dX12_mill_3 : decode cX12_mill 3 = .ok (.aload_n 0, 1) := by decide +kernel
theorem dX12_mill_4 : decode cX12_mill 4 = .ok (.getfield 131, 3) := by decide +kernel
theorem dX12_mill_7 : decode cX12_mill 7 = .ok (.iconst 2, 1) := by decide +kernel
theorem dX12_mill_8 : decode cX12_mill 8 = .ok (.isub, 1) := by decide +kernel
theorem dX12_mill_9 : decode cX12_mill 9 = .ok (.i2l, 1) := by decide +kernel
theorem dX12_mill_10 : decode cX12_mill 10 = .ok (.invokestatic 68, 3) := by decide +kernel
theorem dX12_mill_13 : decode cX12_mill 13 = .ok (.ifCond .ne 6, 3) := by decide +kernel
theorem dX12_mill_16 : decode cX12_mill 16 = .ok (.ldc 190, 2) := by decide +kernel
theorem dX12_mill_18 : decode cX12_mill 18 = .ok (.ireturn, 1) := by decide +kernel
theorem dX12_mill_19 : decode cX12_mill 19 = .ok (.iload_n 2, 1) := by decide +kernel
theorem dX12_mill_20 : decode cX12_mill 20 = .ok (.i2l, 1) := by decide +kernel
theorem dX12_mill_21 : decode cX12_mill 21 = .ok (.lconst 0, 1) := by decide +kernel
theorem dX12_mill_22 : decode cX12_mill 22 = .ok (.ldc2_w 214, 3) := by decide +kernel
theorem dX12_mill_25 : decode cX12_mill 25 = .ok (.invokestatic 68, 3) := by decide +kernel
theorem dX12_mill_28 : decode cX12_mill 28 = .ok (.ifCond .eq 12, 3) := by decide +kernel
theorem dX12_mill_31 : decode cX12_mill 31 = .ok (.aload_n 0, 1) := by decide +kernel
theorem dX12_mill_32 : decode cX12_mill 32 = .ok (.iload_n 1, 1) := by decide +kernel
theorem dX12_mill_33 : decode cX12_mill 33 = .ok (.iload_n 2, 1) := by decide +kernel
theorem dX12_mill_34 : decode cX12_mill 34 = .ok (.invokevirtual 237, 3) := by decide +kernel
theorem dX12_mill_37 : decode cX12_mill 37 = .ok (.goto 5, 3) := by decide +kernel
theorem dX12_mill_40 : decode cX12_mill 40 = .ok (.ldc 72, 2) := by decide +kernel
theorem dX12_mill_42 : decode cX12_mill 42 = .ok (.ireturn, 1) := by decide +kernel
theorem dX12_bestMill_0 : decode cX12_bestMill 0 = .ok (.iconst (-1), 1) := by decide +kernel
theorem dX12_bestMill_1 : decode cX12_bestMill 1 = .ok (.istore_n 1, 1) := by decide +kernel
theorem dX12_bestMill_2 : decode cX12_bestMill 2 = .ok (.iconst (-1), 1) := by decide +kernel
theorem dX12_bestMill_3 : decode cX12_bestMill 3 = .ok (.istore_n 2, 1) := by decide +kernel
theorem dX12_bestMill_4 : decode cX12_bestMill 4 = .ok (.iconst 0, 1) := by decide +kernel
theorem dX12_bestMill_5 : decode cX12_bestMill 5 = .ok (.istore_n 3, 1) := by decide +kernel
theorem dX12_bestMill_6 : decode cX12_bestMill 6 = .ok (.iload_n 3, 1) := by decide +kernel
theorem dX12_bestMill_7 : decode cX12_bestMill 7 = .ok (.iconst 1, 1) := by decide +kernel
theorem dX12_bestMill_8 : decode cX12_bestMill 8 = .ok (.iadd, 1) := by decide +kernel
theorem dX12_bestMill_9 : decode cX12_bestMill 9 = .ok (.aload_n 0, 1) := by decide +kernel
theorem dX12_bestMill_10 : decode cX12_bestMill 10 = .ok (.getfield 131, 3) := by decide +kernel
theorem dX12_bestMill_13 : decode cX12_bestMill 13 = .ok (.if_icmp .ge 28, 3) := by decide +kernel
theorem dX12_bestMill_16 : decode cX12_bestMill 16 = .ok (.aload_n 0, 1) := by decide +kernel
theorem dX12_bestMill_17 : decode cX12_bestMill 17 = .ok (.iload_n 3, 1) := by decide +kernel
theorem dX12_bestMill_18 : decode cX12_bestMill 18 = .ok (.iconst 2, 1) := by decide +kernel
theorem dX12_bestMill_19 : decode cX12_bestMill 19 = .ok (.invokevirtual 237, 3) := by decide +kernel
theorem dX12_bestMill_22 : decode cX12_bestMill 22 = .ok (.istore 4, 2) := by decide +kernel
theorem dX12_bestMill_24 : decode cX12_bestMill 24 = .ok (.iload 4, 2) := by decide +kernel
theorem dX12_bestMill_26 : decode cX12_bestMill 26 = .ok (.iload_n 2, 1) := by decide +kernel
theorem dX12_bestMill_27 : decode cX12_bestMill 27 = .ok (.if_icmp .le 8, 3) := by decide +kernel
theorem dX12_bestMill_30 : decode cX12_bestMill 30 = .ok (.iload_n 3, 1) := by decide +kernel
theorem dX12_bestMill_31 : decode cX12_bestMill 31 = .ok (.istore_n 1, 1) := by decide +kernel
theorem dX12_bestMill_32 : decode cX12_bestMill 32 = .ok (.iload 4, 2) := by decide +kernel
theorem dX12_bestMill_34 : decode cX12_bestMill 34 = .ok (.istore_n 2, 1) := by decide +kernel
theorem dX12_bestMill_35 : decode cX12_bestMill 35 = .ok (.iinc 3 1, 3) := by decide +kernel
theorem dX12_bestMill_38 : decode cX12_bestMill 38 = .ok (.goto (-32), 3) := by decide +kernel
theorem dX12_bestMill_41 : decode cX12_bestMill 41 = .ok (.iload_n 1, 1) := by decide +kernel
theorem dX12_bestMill_42 : decode cX12_bestMill 42 = .ok (.ireturn, 1) := by decide +kernel
theorem dX12_soonest_0 : decode cX12_soonest 0 = .ok (.aload_n 0, 1) := by decide +kernel
theorem dX12_soonest_1 : decode cX12_soonest 1 = .ok (.iload_n 1, 1) := by decide +kernel
theorem dX12_soonest_2 : decode cX12_soonest 2 = .ok (.invokevirtual 186, 3) := by decide +kernel
theorem dX12_soonest_5 : decode cX12_soonest 5 = .ok (.ifCond .eq 11, 3) := by decide +kernel
theorem dX12_soonest_8 : decode cX12_soonest 8 = .ok (.aload_n 0, 1) := by decide +kernel
theorem dX12_soonest_9 : decode cX12_soonest 9 = .ok (.iload_n 2, 1) := by decide +kernel
theorem dX12_soonest_10 : decode cX12_soonest 10 = .ok (.invokevirtual 186, 3) := by decide +kernel
theorem dX12_soonest_13 : decode cX12_soonest 13 = .ok (.ifCond .ne 6, 3) := by decide +kernel
theorem dX12_soonest_16 : decode cX12_soonest 16 = .ok (.ldc 190, 2) := by decide +kernel
theorem dX12_soonest_18 : decode cX12_soonest 18 = .ok (.ireturn, 1) := by decide +kernel
theorem dX12_soonest_19 : decode cX12_soonest 19 = .ok (.iconst 1, 1) := by decide +kernel
theorem dX12_soonest_20 : decode cX12_soonest 20 = .ok (.iload_n 1, 1) := by decide +kernel
theorem dX12_soonest_21 : decode cX12_soonest 21 = .ok (.ishl, 1) := by decide +kernel
theorem dX12_soonest_22 : decode cX12_soonest 22 = .ok (.istore_n 3, 1) := by decide +kernel
theorem dX12_soonest_23 : decode cX12_soonest 23 = .ok (.iconst 0, 1) := by decide +kernel
theorem dX12_soonest_24 : decode cX12_soonest 24 = .ok (.istore 4, 2) := by decide +kernel
theorem dX12_soonest_26 : decode cX12_soonest 26 = .ok (.iload 4, 2) := by decide +kernel
theorem dX12_soonest_28 : decode cX12_soonest 28 = .ok (.sipush 200, 3) := by decide +kernel
theorem dX12_soonest_31 : decode cX12_soonest 31 = .ok (.if_icmp .gt 107, 3) := by decide +kernel
theorem dX12_soonest_34 : decode cX12_soonest 34 = .ok (.iload_n 3, 1) := by decide +kernel
theorem dX12_soonest_35 : decode cX12_soonest 35 = .ok (.iload_n 2, 1) := by decide +kernel
theorem dX12_soonest_36 : decode cX12_soonest 36 = .ok (.invokestatic 240, 3) := by decide +kernel
theorem dX12_soonest_39 : decode cX12_soonest 39 = .ok (.ifCond .eq 6, 3) := by decide +kernel
theorem dX12_soonest_42 : decode cX12_soonest 42 = .ok (.iload 4, 2) := by decide +kernel
theorem dX12_soonest_44 : decode cX12_soonest 44 = .ok (.ireturn, 1) := by decide +kernel
theorem dX12_soonest_45 : decode cX12_soonest 45 = .ok (.iload_n 3, 1) := by decide +kernel
theorem dX12_soonest_46 : decode cX12_soonest 46 = .ok (.istore 5, 2) := by decide +kernel
theorem dX12_soonest_48 : decode cX12_soonest 48 = .ok (.iconst 0, 1) := by decide +kernel
theorem dX12_soonest_49 : decode cX12_soonest 49 = .ok (.istore 6, 2) := by decide +kernel
theorem dX12_soonest_51 : decode cX12_soonest 51 = .ok (.iload 6, 2) := by decide +kernel
theorem dX12_soonest_53 : decode cX12_soonest 53 = .ok (.aload_n 0, 1) := by decide +kernel
theorem dX12_soonest_54 : decode cX12_soonest 54 = .ok (.getfield 131, 3) := by decide +kernel
theorem dX12_soonest_57 : decode cX12_soonest 57 = .ok (.if_icmp .ge 72, 3) := by decide +kernel
theorem dX12_soonest_60 : decode cX12_soonest 60 = .ok (.iconst 1, 1) := by decide +kernel
theorem dX12_soonest_61 : decode cX12_soonest 61 = .ok (.istore 7, 2) := by decide +kernel
theorem dX12_soonest_63 : decode cX12_soonest 63 = .ok (.iload 7, 2) := by decide +kernel
theorem dX12_soonest_65 : decode cX12_soonest 65 = .ok (.iconst 3, 1) := by decide +kernel
theorem dX12_soonest_66 : decode cX12_soonest 66 = .ok (.if_icmp .ge 57, 3) := by decide +kernel
theorem dX12_soonest_69 : decode cX12_soonest 69 = .ok (.iload_n 3, 1) := by decide +kernel
theorem dX12_soonest_70 : decode cX12_soonest 70 = .ok (.iload 6, 2) := by decide +kernel
theorem dX12_soonest_72 : decode cX12_soonest 72 = .ok (.invokestatic 240, 3) := by decide +kernel
theorem dX12_soonest_75 : decode cX12_soonest 75 = .ok (.ifCond .eq 48, 3) := by decide +kernel
theorem dX12_soonest_78 : decode cX12_soonest 78 = .ok (.aload_n 0, 1) := by decide +kernel
theorem dX12_soonest_79 : decode cX12_soonest 79 = .ok (.iload 6, 2) := by decide +kernel
theorem dX12_soonest_81 : decode cX12_soonest 81 = .ok (.iload 7, 2) := by decide +kernel
theorem dX12_soonest_83 : decode cX12_soonest 83 = .ok (.aload_n 0, 1) := by decide +kernel
theorem dX12_soonest_84 : decode cX12_soonest 84 = .ok (.getfield 7, 3) := by decide +kernel
theorem dX12_soonest_87 : decode cX12_soonest 87 = .ok (.iconst 0, 1) := by decide +kernel
theorem dX12_soonest_88 : decode cX12_soonest 88 = .ok (.iaload, 1) := by decide +kernel
theorem dX12_soonest_89 : decode cX12_soonest 89 = .ok (.iload 4, 2) := by decide +kernel
theorem dX12_soonest_91 : decode cX12_soonest 91 = .ok (.iadd, 1) := by decide +kernel
theorem dX12_soonest_92 : decode cX12_soonest 92 = .ok (.iconst 1, 1) := by decide +kernel
theorem dX12_soonest_93 : decode cX12_soonest 93 = .ok (.iadd, 1) := by decide +kernel
theorem dX12_soonest_94 : decode cX12_soonest 94 = .ok (.invokevirtual 207, 3) := by decide +kernel
theorem dX12_soonest_97 : decode cX12_soonest 97 = .ok (.istore 8, 2) := by decide +kernel
theorem dX12_soonest_99 : decode cX12_soonest 99 = .ok (.iload 5, 2) := by decide +kernel
theorem dX12_soonest_101 : decode cX12_soonest 101 = .ok (.iload 8, 2) := by decide +kernel
theorem dX12_soonest_103 : decode cX12_soonest 103 = .ok (.ifCond .ge 7, 3) := by decide +kernel
theorem dX12_soonest_106 : decode cX12_soonest 106 = .ok (.iconst 0, 1) := by decide +kernel
theorem dX12_soonest_107 : decode cX12_soonest 107 = .ok (.goto 7, 3) := by decide +kernel
theorem dX12_soonest_110 : decode cX12_soonest 110 = .ok (.iconst 1, 1) := by decide +kernel
theorem dX12_soonest_111 : decode cX12_soonest 111 = .ok (.iload 8, 2) := by decide +kernel
theorem dX12_soonest_113 : decode cX12_soonest 113 = .ok (.ishl, 1) := by decide +kernel
theorem dX12_soonest_114 : decode cX12_soonest 114 = .ok (.ior, 1) := by decide +kernel
theorem dX12_soonest_115 : decode cX12_soonest 115 = .ok (.istore 5, 2) := by decide +kernel
theorem dX12_soonest_117 : decode cX12_soonest 117 = .ok (.iinc 7 1, 3) := by decide +kernel
theorem dX12_soonest_120 : decode cX12_soonest 120 = .ok (.goto (-57), 3) := by decide +kernel
theorem dX12_soonest_123 : decode cX12_soonest 123 = .ok (.iinc 6 1, 3) := by decide +kernel
theorem dX12_soonest_126 : decode cX12_soonest 126 = .ok (.goto (-75), 3) := by decide +kernel
theorem dX12_soonest_129 : decode cX12_soonest 129 = .ok (.iload 5, 2) := by decide +kernel
theorem dX12_soonest_131 : decode cX12_soonest 131 = .ok (.istore_n 3, 1) := by decide +kernel
theorem dX12_soonest_132 : decode cX12_soonest 132 = .ok (.iinc 4 1, 3) := by decide +kernel
theorem dX12_soonest_135 : decode cX12_soonest 135 = .ok (.goto (-109), 3) := by decide +kernel
theorem dX12_soonest_138 : decode cX12_soonest 138 = .ok (.iconst (-1), 1) := by decide +kernel
theorem dX12_soonest_139 : decode cX12_soonest 139 = .ok (.ireturn, 1) := by decide +kernel
theorem dX12_leastBy_0 : decode cX12_leastBy 0 = .ok (.aload_n 0, 1) := by decide +kernel
theorem dX12_leastBy_1 : decode cX12_leastBy 1 = .ok (.iload_n 1, 1) := by decide +kernel
theorem dX12_leastBy_2 : decode cX12_leastBy 2 = .ok (.iload_n 2, 1) := by decide +kernel
theorem dX12_leastBy_3 : decode cX12_leastBy 3 = .ok (.aload_n 0, 1) := by decide +kernel
theorem dX12_leastBy_4 : decode cX12_leastBy 4 = .ok (.getfield 7, 3) := by decide +kernel
theorem dX12_leastBy_7 : decode cX12_leastBy 7 = .ok (.iconst 0, 1) := by decide +kernel
theorem dX12_leastBy_8 : decode cX12_leastBy 8 = .ok (.iaload, 1) := by decide +kernel
theorem dX12_leastBy_9 : decode cX12_leastBy 9 = .ok (.iload 4, 2) := by decide +kernel
theorem dX12_leastBy_11 : decode cX12_leastBy 11 = .ok (.iadd, 1) := by decide +kernel
theorem dX12_leastBy_12 : decode cX12_leastBy 12 = .ok (.iload_n 3, 1) := by decide +kernel
theorem dX12_leastBy_13 : decode cX12_leastBy 13 = .ok (.isub, 1) := by decide +kernel
theorem dX12_leastBy_14 : decode cX12_leastBy 14 = .ok (.iconst 1, 1) := by decide +kernel
theorem dX12_leastBy_15 : decode cX12_leastBy 15 = .ok (.iadd, 1) := by decide +kernel
theorem dX12_leastBy_16 : decode cX12_leastBy 16 = .ok (.invokevirtual 207, 3) := by decide +kernel
theorem dX12_leastBy_19 : decode cX12_leastBy 19 = .ok (.istore 5, 2) := by decide +kernel
theorem dX12_leastBy_21 : decode cX12_leastBy 21 = .ok (.iload 5, 2) := by decide +kernel
theorem dX12_leastBy_23 : decode cX12_leastBy 23 = .ok (.ifCond .ge 8, 3) := by decide +kernel
theorem dX12_leastBy_26 : decode cX12_leastBy 26 = .ok (.ldc 243, 2) := by decide +kernel
theorem dX12_leastBy_28 : decode cX12_leastBy 28 = .ok (.goto 17, 3) := by decide +kernel
theorem dX12_leastBy_31 : decode cX12_leastBy 31 = .ok (.aload_n 0, 1) := by decide +kernel
theorem dX12_leastBy_32 : decode cX12_leastBy 32 = .ok (.getfield 39, 3) := by decide +kernel
theorem dX12_leastBy_35 : decode cX12_leastBy 35 = .ok (.bipush 8, 2) := by decide +kernel
theorem dX12_leastBy_37 : decode cX12_leastBy 37 = .ok (.iload_n 3, 1) := by decide +kernel
theorem dX12_leastBy_38 : decode cX12_leastBy 38 = .ok (.iconst 1, 1) := by decide +kernel
theorem dX12_leastBy_39 : decode cX12_leastBy 39 = .ok (.isub, 1) := by decide +kernel
theorem dX12_leastBy_40 : decode cX12_leastBy 40 = .ok (.imul, 1) := by decide +kernel
theorem dX12_leastBy_41 : decode cX12_leastBy 41 = .ok (.iload 5, 2) := by decide +kernel
theorem dX12_leastBy_43 : decode cX12_leastBy 43 = .ok (.iadd, 1) := by decide +kernel
theorem dX12_leastBy_44 : decode cX12_leastBy 44 = .ok (.iaload, 1) := by decide +kernel
theorem dX12_leastBy_45 : decode cX12_leastBy 45 = .ok (.istore 6, 2) := by decide +kernel
theorem dX12_leastBy_47 : decode cX12_leastBy 47 = .ok (.iload 6, 2) := by decide +kernel
theorem dX12_leastBy_49 : decode cX12_leastBy 49 = .ok (.ldc 243, 2) := by decide +kernel
theorem dX12_leastBy_51 : decode cX12_leastBy 51 = .ok (.if_icmp .ne 8, 3) := by decide +kernel
theorem dX12_leastBy_54 : decode cX12_leastBy 54 = .ok (.ldc 243, 2) := by decide +kernel
theorem dX12_leastBy_56 : decode cX12_leastBy 56 = .ok (.goto 26, 3) := by decide +kernel
theorem dX12_leastBy_59 : decode cX12_leastBy 59 = .ok (.iload 6, 2) := by decide +kernel
theorem dX12_leastBy_61 : decode cX12_leastBy 61 = .ok (.aload_n 0, 1) := by decide +kernel
theorem dX12_leastBy_62 : decode cX12_leastBy 62 = .ok (.iload_n 1, 1) := by decide +kernel
theorem dX12_leastBy_63 : decode cX12_leastBy 63 = .ok (.iload 5, 2) := by decide +kernel
theorem dX12_leastBy_65 : decode cX12_leastBy 65 = .ok (.aload_n 0, 1) := by decide +kernel
theorem dX12_leastBy_66 : decode cX12_leastBy 66 = .ok (.getfield 7, 3) := by decide +kernel
theorem dX12_leastBy_69 : decode cX12_leastBy 69 = .ok (.iconst 1, 1) := by decide +kernel
theorem dX12_leastBy_70 : decode cX12_leastBy 70 = .ok (.iaload, 1) := by decide +kernel
theorem dX12_leastBy_71 : decode cX12_leastBy 71 = .ok (.iload 4, 2) := by decide +kernel
theorem dX12_leastBy_73 : decode cX12_leastBy 73 = .ok (.iadd, 1) := by decide +kernel
theorem dX12_leastBy_74 : decode cX12_leastBy 74 = .ok (.iload_n 3, 1) := by decide +kernel
theorem dX12_leastBy_75 : decode cX12_leastBy 75 = .ok (.isub, 1) := by decide +kernel
theorem dX12_leastBy_76 : decode cX12_leastBy 76 = .ok (.iconst 1, 1) := by decide +kernel
theorem dX12_leastBy_77 : decode cX12_leastBy 77 = .ok (.iadd, 1) := by decide +kernel
theorem dX12_leastBy_78 : decode cX12_leastBy 78 = .ok (.invokevirtual 211, 3) := by decide +kernel
theorem dX12_leastBy_81 : decode cX12_leastBy 81 = .ok (.iadd, 1) := by decide +kernel
theorem dX12_leastBy_82 : decode cX12_leastBy 82 = .ok (.ireturn, 1) := by decide +kernel
theorem dX12_bestWay_0 : decode cX12_bestWay 0 = .ok (.iconst 0, 1) := by decide +kernel
theorem dX12_bestWay_1 : decode cX12_bestWay 1 = .ok (.istore 4, 2) := by decide +kernel
theorem dX12_bestWay_3 : decode cX12_bestWay 3 = .ok (.iconst 1, 1) := by decide +kernel
theorem dX12_bestWay_4 : decode cX12_bestWay 4 = .ok (.istore 5, 2) := by decide +kernel
theorem dX12_bestWay_6 : decode cX12_bestWay 6 = .ok (.iload 5, 2) := by decide +kernel
theorem dX12_bestWay_8 : decode cX12_bestWay 8 = .ok (.iconst 3, 1) := by decide +kernel
theorem dX12_bestWay_9 : decode cX12_bestWay 9 = .ok (.if_icmp .ge 39, 3) := by decide +kernel
theorem dX12_bestWay_12 : decode cX12_bestWay 12 = .ok (.aload_n 0, 1) := by decide +kernel
theorem dX12_bestWay_13 : decode cX12_bestWay 13 = .ok (.iload_n 1, 1) := by decide +kernel
theorem dX12_bestWay_14 : decode cX12_bestWay 14 = .ok (.iload 5, 2) := by decide +kernel
theorem dX12_bestWay_16 : decode cX12_bestWay 16 = .ok (.iload_n 2, 1) := by decide +kernel
theorem dX12_bestWay_17 : decode cX12_bestWay 17 = .ok (.iload_n 3, 1) := by decide +kernel
theorem dX12_bestWay_18 : decode cX12_bestWay 18 = .ok (.invokevirtual 244, 3) := by decide +kernel
theorem dX12_bestWay_21 : decode cX12_bestWay 21 = .ok (.aload_n 0, 1) := by decide +kernel
theorem dX12_bestWay_22 : decode cX12_bestWay 22 = .ok (.iload_n 1, 1) := by decide +kernel
theorem dX12_bestWay_23 : decode cX12_bestWay 23 = .ok (.iload 4, 2) := by decide +kernel
theorem dX12_bestWay_25 : decode cX12_bestWay 25 = .ok (.iload_n 2, 1) := by decide +kernel
theorem dX12_bestWay_26 : decode cX12_bestWay 26 = .ok (.iload_n 3, 1) := by decide +kernel
theorem dX12_bestWay_27 : decode cX12_bestWay 27 = .ok (.invokevirtual 244, 3) := by decide +kernel
theorem dX12_bestWay_30 : decode cX12_bestWay 30 = .ok (.if_icmp .ge 8, 3) := by decide +kernel
theorem dX12_bestWay_33 : decode cX12_bestWay 33 = .ok (.iload 5, 2) := by decide +kernel
theorem dX12_bestWay_35 : decode cX12_bestWay 35 = .ok (.goto 5, 3) := by decide +kernel
theorem dX12_bestWay_38 : decode cX12_bestWay 38 = .ok (.iload 4, 2) := by decide +kernel
theorem dX12_bestWay_40 : decode cX12_bestWay 40 = .ok (.istore 4, 2) := by decide +kernel
theorem dX12_bestWay_42 : decode cX12_bestWay 42 = .ok (.iinc 5 1, 3) := by decide +kernel
theorem dX12_bestWay_45 : decode cX12_bestWay 45 = .ok (.goto (-39), 3) := by decide +kernel
theorem dX12_bestWay_48 : decode cX12_bestWay 48 = .ok (.iload 4, 2) := by decide +kernel
theorem dX12_bestWay_50 : decode cX12_bestWay 50 = .ok (.ireturn, 1) := by decide +kernel
theorem dX12_findLeast_0 : decode cX12_findLeast 0 = .ok (.iconst 0, 1) := by decide +kernel
theorem dX12_findLeast_1 : decode cX12_findLeast 1 = .ok (.istore_n 3, 1) := by decide +kernel
theorem dX12_findLeast_2 : decode cX12_findLeast 2 = .ok (.iload_n 3, 1) := by decide +kernel
theorem dX12_findLeast_3 : decode cX12_findLeast 3 = .ok (.iload_n 2, 1) := by decide +kernel
theorem dX12_findLeast_4 : decode cX12_findLeast 4 = .ok (.if_icmp .gt 74, 3) := by decide +kernel
theorem dX12_findLeast_7 : decode cX12_findLeast 7 = .ok (.iconst 0, 1) := by decide +kernel
theorem dX12_findLeast_8 : decode cX12_findLeast 8 = .ok (.istore 4, 2) := by decide +kernel
theorem dX12_findLeast_10 : decode cX12_findLeast 10 = .ok (.iload 4, 2) := by decide +kernel
theorem dX12_findLeast_12 : decode cX12_findLeast 12 = .ok (.aload_n 0, 1) := by decide +kernel
theorem dX12_findLeast_13 : decode cX12_findLeast 13 = .ok (.getfield 131, 3) := by decide +kernel
theorem dX12_findLeast_16 : decode cX12_findLeast 16 = .ok (.if_icmp .ge 56, 3) := by decide +kernel
theorem dX12_findLeast_19 : decode cX12_findLeast 19 = .ok (.aload_n 0, 1) := by decide +kernel
theorem dX12_findLeast_20 : decode cX12_findLeast 20 = .ok (.getfield 39, 3) := by decide +kernel
theorem dX12_findLeast_23 : decode cX12_findLeast 23 = .ok (.bipush 8, 2) := by decide +kernel
theorem dX12_findLeast_25 : decode cX12_findLeast 25 = .ok (.iload_n 3, 1) := by decide +kernel
theorem dX12_findLeast_26 : decode cX12_findLeast 26 = .ok (.imul, 1) := by decide +kernel
theorem dX12_findLeast_27 : decode cX12_findLeast 27 = .ok (.iload 4, 2) := by decide +kernel
theorem dX12_findLeast_29 : decode cX12_findLeast 29 = .ok (.iadd, 1) := by decide +kernel
theorem dX12_findLeast_30 : decode cX12_findLeast 30 = .ok (.iload 4, 2) := by decide +kernel
theorem dX12_findLeast_32 : decode cX12_findLeast 32 = .ok (.iload_n 1, 1) := by decide +kernel
theorem dX12_findLeast_33 : decode cX12_findLeast 33 = .ok (.if_icmp .ne 7, 3) := by decide +kernel
theorem dX12_findLeast_36 : decode cX12_findLeast 36 = .ok (.iconst 0, 1) := by decide +kernel
theorem dX12_findLeast_37 : decode cX12_findLeast 37 = .ok (.goto 28, 3) := by decide +kernel
theorem dX12_findLeast_40 : decode cX12_findLeast 40 = .ok (.iload_n 3, 1) := by decide +kernel
theorem dX12_findLeast_41 : decode cX12_findLeast 41 = .ok (.ifCond .ne 8, 3) := by decide +kernel
theorem dX12_findLeast_44 : decode cX12_findLeast 44 = .ok (.ldc 243, 2) := by decide +kernel
theorem dX12_findLeast_46 : decode cX12_findLeast 46 = .ok (.goto 19, 3) := by decide +kernel
theorem dX12_findLeast_49 : decode cX12_findLeast 49 = .ok (.aload_n 0, 1) := by decide +kernel
theorem dX12_findLeast_50 : decode cX12_findLeast 50 = .ok (.iload 4, 2) := by decide +kernel
theorem dX12_findLeast_52 : decode cX12_findLeast 52 = .ok (.aload_n 0, 1) := by decide +kernel
theorem dX12_findLeast_53 : decode cX12_findLeast 53 = .ok (.iload 4, 2) := by decide +kernel
theorem dX12_findLeast_55 : decode cX12_findLeast 55 = .ok (.iload_n 3, 1) := by decide +kernel
theorem dX12_findLeast_56 : decode cX12_findLeast 56 = .ok (.iload_n 2, 1) := by decide +kernel
theorem dX12_findLeast_57 : decode cX12_findLeast 57 = .ok (.invokevirtual 248, 3) := by decide +kernel
theorem dX12_findLeast_60 : decode cX12_findLeast 60 = .ok (.iload_n 3, 1) := by decide +kernel
theorem dX12_findLeast_61 : decode cX12_findLeast 61 = .ok (.iload_n 2, 1) := by decide +kernel
theorem dX12_findLeast_62 : decode cX12_findLeast 62 = .ok (.invokevirtual 244, 3) := by decide +kernel
theorem dX12_findLeast_65 : decode cX12_findLeast 65 = .ok (.iastore, 1) := by decide +kernel
theorem dX12_findLeast_66 : decode cX12_findLeast 66 = .ok (.iinc 4 1, 3) := by decide +kernel
theorem dX12_findLeast_69 : decode cX12_findLeast 69 = .ok (.goto (-59), 3) := by decide +kernel
theorem dX12_findLeast_72 : decode cX12_findLeast 72 = .ok (.iinc 3 1, 3) := by decide +kernel
theorem dX12_findLeast_75 : decode cX12_findLeast 75 = .ok (.goto (-73), 3) := by decide +kernel
theorem dX12_findLeast_78 : decode cX12_findLeast 78 = .ok (.return_, 1) := by decide +kernel
theorem dX12_least_0 : decode cX12_least 0 = .ok (.aload_n 0, 1) := by decide +kernel
theorem dX12_least_1 : decode cX12_least 1 = .ok (.iload_n 1, 1) := by decide +kernel
theorem dX12_least_2 : decode cX12_least 2 = .ok (.invokevirtual 186, 3) := by decide +kernel
theorem dX12_least_5 : decode cX12_least 5 = .ok (.ifCond .eq 11, 3) := by decide +kernel
theorem dX12_least_8 : decode cX12_least 8 = .ok (.aload_n 0, 1) := by decide +kernel
theorem dX12_least_9 : decode cX12_least 9 = .ok (.iload_n 2, 1) := by decide +kernel
theorem dX12_least_10 : decode cX12_least 10 = .ok (.invokevirtual 186, 3) := by decide +kernel
theorem dX12_least_13 : decode cX12_least 13 = .ok (.ifCond .ne 6, 3) := by decide +kernel
theorem dX12_least_16 : decode cX12_least 16 = .ok (.ldc 190, 2) := by decide +kernel
theorem dX12_least_18 : decode cX12_least 18 = .ok (.ireturn, 1) := by decide +kernel
theorem dX12_least_19 : decode cX12_least 19 = .ok (.iload_n 3, 1) := by decide +kernel
theorem dX12_least_20 : decode cX12_least 20 = .ok (.i2l, 1) := by decide +kernel
theorem dX12_least_21 : decode cX12_least 21 = .ok (.lconst 1, 1) := by decide +kernel
theorem dX12_least_22 : decode cX12_least 22 = .ok (.ldc2_w 251, 3) := by decide +kernel
theorem dX12_least_25 : decode cX12_least 25 = .ok (.invokestatic 68, 3) := by decide +kernel
theorem dX12_least_28 : decode cX12_least 28 = .ok (.ifCond .ne 6, 3) := by decide +kernel
theorem dX12_least_31 : decode cX12_least 31 = .ok (.ldc 72, 2) := by decide +kernel
theorem dX12_least_33 : decode cX12_least 33 = .ok (.ireturn, 1) := by decide +kernel
theorem dX12_least_34 : decode cX12_least 34 = .ok (.aload_n 0, 1) := by decide +kernel
theorem dX12_least_35 : decode cX12_least 35 = .ok (.iload_n 2, 1) := by decide +kernel
theorem dX12_least_36 : decode cX12_least 36 = .ok (.iload_n 3, 1) := by decide +kernel
theorem dX12_least_37 : decode cX12_least 37 = .ok (.invokevirtual 253, 3) := by decide +kernel
theorem dX12_least_40 : decode cX12_least 40 = .ok (.aload_n 0, 1) := by decide +kernel
theorem dX12_least_41 : decode cX12_least 41 = .ok (.getfield 39, 3) := by decide +kernel
theorem dX12_least_44 : decode cX12_least 44 = .ok (.bipush 8, 2) := by decide +kernel
theorem dX12_least_46 : decode cX12_least 46 = .ok (.iload_n 3, 1) := by decide +kernel
theorem dX12_least_47 : decode cX12_least 47 = .ok (.imul, 1) := by decide +kernel
theorem dX12_least_48 : decode cX12_least 48 = .ok (.iload_n 1, 1) := by decide +kernel
theorem dX12_least_49 : decode cX12_least 49 = .ok (.iadd, 1) := by decide +kernel
theorem dX12_least_50 : decode cX12_least 50 = .ok (.iaload, 1) := by decide +kernel
theorem dX12_least_51 : decode cX12_least 51 = .ok (.istore 5, 2) := by decide +kernel
theorem dX12_least_53 : decode cX12_least 53 = .ok (.iload 5, 2) := by decide +kernel
theorem dX12_least_55 : decode cX12_least 55 = .ok (.ldc 243, 2) := by decide +kernel
theorem dX12_least_57 : decode cX12_least 57 = .ok (.if_icmp .eq 8, 3) := by decide +kernel
theorem dX12_least_60 : decode cX12_least 60 = .ok (.iload 4, 2) := by decide +kernel
theorem dX12_least_62 : decode cX12_least 62 = .ok (.ifCond .ge 23, 3) := by decide +kernel
theorem dX12_least_65 : decode cX12_least 65 = .ok (.iload 5, 2) := by decide +kernel
theorem dX12_least_67 : decode cX12_least 67 = .ok (.ldc 243, 2) := by decide +kernel
theorem dX12_least_69 : decode cX12_least 69 = .ok (.if_icmp .eq 14, 3) := by decide +kernel
theorem dX12_least_72 : decode cX12_least 72 = .ok (.iload 4, 2) := by decide +kernel
theorem dX12_least_74 : decode cX12_least 74 = .ok (.iconst (-1), 1) := by decide +kernel
theorem dX12_least_75 : decode cX12_least 75 = .ok (.if_icmp .ne 8, 3) := by decide +kernel
theorem dX12_least_78 : decode cX12_least 78 = .ok (.iload 5, 2) := by decide +kernel
theorem dX12_least_80 : decode cX12_least 80 = .ok (.goto 4, 3) := by decide +kernel
theorem dX12_least_83 : decode cX12_least 83 = .ok (.iconst (-1), 1) := by decide +kernel
theorem dX12_least_84 : decode cX12_least 84 = .ok (.ireturn, 1) := by decide +kernel
theorem dX12_least_85 : decode cX12_least 85 = .ok (.iload_n 1, 1) := by decide +kernel
theorem dX12_least_86 : decode cX12_least 86 = .ok (.istore 6, 2) := by decide +kernel
theorem dX12_least_88 : decode cX12_least 88 = .ok (.iconst 0, 1) := by decide +kernel
theorem dX12_least_89 : decode cX12_least 89 = .ok (.istore 7, 2) := by decide +kernel
theorem dX12_least_91 : decode cX12_least 91 = .ok (.iload 7, 2) := by decide +kernel
theorem dX12_least_93 : decode cX12_least 93 = .ok (.iload_n 3, 1) := by decide +kernel
theorem dX12_least_94 : decode cX12_least 94 = .ok (.if_icmp .ge 59, 3) := by decide +kernel
theorem dX12_least_97 : decode cX12_least 97 = .ok (.iload 6, 2) := by decide +kernel
theorem dX12_least_99 : decode cX12_least 99 = .ok (.iload_n 2, 1) := by decide +kernel
theorem dX12_least_100 : decode cX12_least 100 = .ok (.if_icmp .eq 53, 3) := by decide +kernel
theorem dX12_least_103 : decode cX12_least 103 = .ok (.aload_n 0, 1) := by decide +kernel
theorem dX12_least_104 : decode cX12_least 104 = .ok (.iload 6, 2) := by decide +kernel
theorem dX12_least_106 : decode cX12_least 106 = .ok (.iload_n 3, 1) := by decide +kernel
theorem dX12_least_107 : decode cX12_least 107 = .ok (.iload 7, 2) := by decide +kernel
theorem dX12_least_109 : decode cX12_least 109 = .ok (.isub, 1) := by decide +kernel
theorem dX12_least_110 : decode cX12_least 110 = .ok (.iload_n 3, 1) := by decide +kernel
theorem dX12_least_111 : decode cX12_least 111 = .ok (.invokevirtual 248, 3) := by decide +kernel
theorem dX12_least_114 : decode cX12_least 114 = .ok (.istore 8, 2) := by decide +kernel
theorem dX12_least_116 : decode cX12_least 116 = .ok (.iload 7, 2) := by decide +kernel
theorem dX12_least_118 : decode cX12_least 118 = .ok (.iload 4, 2) := by decide +kernel
theorem dX12_least_120 : decode cX12_least 120 = .ok (.if_icmp .ne 6, 3) := by decide +kernel
theorem dX12_least_123 : decode cX12_least 123 = .ok (.iload 8, 2) := by decide +kernel
theorem dX12_least_125 : decode cX12_least 125 = .ok (.ireturn, 1) := by decide +kernel
theorem dX12_least_126 : decode cX12_least 126 = .ok (.aload_n 0, 1) := by decide +kernel
theorem dX12_least_127 : decode cX12_least 127 = .ok (.iload 6, 2) := by decide +kernel
theorem dX12_least_129 : decode cX12_least 129 = .ok (.iload 8, 2) := by decide +kernel
theorem dX12_least_131 : decode cX12_least 131 = .ok (.aload_n 0, 1) := by decide +kernel
theorem dX12_least_132 : decode cX12_least 132 = .ok (.getfield 7, 3) := by decide +kernel
theorem dX12_least_135 : decode cX12_least 135 = .ok (.iconst 0, 1) := by decide +kernel
theorem dX12_least_136 : decode cX12_least 136 = .ok (.iaload, 1) := by decide +kernel
theorem dX12_least_137 : decode cX12_least 137 = .ok (.iload 7, 2) := by decide +kernel
theorem dX12_least_139 : decode cX12_least 139 = .ok (.iadd, 1) := by decide +kernel
theorem dX12_least_140 : decode cX12_least 140 = .ok (.iconst 1, 1) := by decide +kernel
theorem dX12_least_141 : decode cX12_least 141 = .ok (.iadd, 1) := by decide +kernel
theorem dX12_least_142 : decode cX12_least 142 = .ok (.invokevirtual 207, 3) := by decide +kernel
theorem dX12_least_145 : decode cX12_least 145 = .ok (.istore 6, 2) := by decide +kernel
theorem dX12_least_147 : decode cX12_least 147 = .ok (.iinc 7 1, 3) := by decide +kernel
theorem dX12_least_150 : decode cX12_least 150 = .ok (.goto (-59), 3) := by decide +kernel
theorem dX12_least_153 : decode cX12_least 153 = .ok (.iconst (-1), 1) := by decide +kernel
theorem dX12_least_154 : decode cX12_least 154 = .ok (.ireturn, 1) := by decide +kernel
theorem dX12_isSeamSet_0 : decode cX12_isSeamSet 0 = .ok (.iload_n 1, 1) := by decide +kernel
theorem dX12_isSeamSet_1 : decode cX12_isSeamSet 1 = .ok (.i2l, 1) := by decide +kernel
theorem dX12_isSeamSet_2 : decode cX12_isSeamSet 2 = .ok (.lconst 0, 1) := by decide +kernel
theorem dX12_isSeamSet_3 : decode cX12_isSeamSet 3 = .ok (.iconst 1, 1) := by decide +kernel
theorem dX12_isSeamSet_4 : decode cX12_isSeamSet 4 = .ok (.aload_n 0, 1) := by decide +kernel
theorem dX12_isSeamSet_5 : decode cX12_isSeamSet 5 = .ok (.getfield 137, 3) := by decide +kernel
theorem dX12_isSeamSet_8 : decode cX12_isSeamSet 8 = .ok (.ishl, 1) := by decide +kernel
theorem dX12_isSeamSet_9 : decode cX12_isSeamSet 9 = .ok (.iconst 1, 1) := by decide +kernel
theorem dX12_isSeamSet_10 : decode cX12_isSeamSet 10 = .ok (.isub, 1) := by decide +kernel
theorem dX12_isSeamSet_11 : decode cX12_isSeamSet 11 = .ok (.i2l, 1) := by decide +kernel
theorem dX12_isSeamSet_12 : decode cX12_isSeamSet 12 = .ok (.invokestatic 68, 3) := by decide +kernel
theorem dX12_isSeamSet_15 : decode cX12_isSeamSet 15 = .ok (.ireturn, 1) := by decide +kernel
theorem dX12_roundOfSeams_0 : decode cX12_roundOfSeams 0 = .ok (.iconst 1, 1) := by decide +kernel
theorem dX12_roundOfSeams_1 : decode cX12_roundOfSeams 1 = .ok (.istore_n 2, 1) := by decide +kernel
theorem dX12_roundOfSeams_2 : decode cX12_roundOfSeams 2 = .ok (.iconst 0, 1) := by decide +kernel
theorem dX12_roundOfSeams_3 : decode cX12_roundOfSeams 3 = .ok (.istore_n 3, 1) := by decide +kernel
theorem dX12_roundOfSeams_4 : decode cX12_roundOfSeams 4 = .ok (.iload_n 3, 1) := by decide +kernel
theorem dX12_roundOfSeams_5 : decode cX12_roundOfSeams 5 = .ok (.aload_n 0, 1) := by decide +kernel
theorem dX12_roundOfSeams_6 : decode cX12_roundOfSeams 6 = .ok (.getfield 137, 3) := by decide +kernel
theorem dX12_roundOfSeams_9 : decode cX12_roundOfSeams 9 = .ok (.if_icmp .ge 45, 3) := by decide +kernel
theorem dX12_roundOfSeams_12 : decode cX12_roundOfSeams 12 = .ok (.iload_n 1, 1) := by decide +kernel
theorem dX12_roundOfSeams_13 : decode cX12_roundOfSeams 13 = .ok (.iload_n 3, 1) := by decide +kernel
theorem dX12_roundOfSeams_14 : decode cX12_roundOfSeams 14 = .ok (.invokestatic 240, 3) := by decide +kernel
theorem dX12_roundOfSeams_17 : decode cX12_roundOfSeams 17 = .ok (.ifCond .eq 16, 3) := by decide +kernel
theorem dX12_roundOfSeams_20 : decode cX12_roundOfSeams 20 = .ok (.aload_n 0, 1) := by decide +kernel
theorem dX12_roundOfSeams_21 : decode cX12_roundOfSeams 21 = .ok (.getfield 23, 3) := by decide +kernel
theorem dX12_roundOfSeams_24 : decode cX12_roundOfSeams 24 = .ok (.iconst 4, 1) := by decide +kernel
theorem dX12_roundOfSeams_25 : decode cX12_roundOfSeams 25 = .ok (.iload_n 3, 1) := by decide +kernel
theorem dX12_roundOfSeams_26 : decode cX12_roundOfSeams 26 = .ok (.imul, 1) := by decide +kernel
theorem dX12_roundOfSeams_27 : decode cX12_roundOfSeams 27 = .ok (.iconst 1, 1) := by decide +kernel
theorem dX12_roundOfSeams_28 : decode cX12_roundOfSeams 28 = .ok (.iadd, 1) := by decide +kernel
theorem dX12_roundOfSeams_29 : decode cX12_roundOfSeams 29 = .ok (.iaload, 1) := by decide +kernel
theorem dX12_roundOfSeams_30 : decode cX12_roundOfSeams 30 = .ok (.goto 4, 3) := by decide +kernel
theorem dX12_roundOfSeams_33 : decode cX12_roundOfSeams 33 = .ok (.iconst 1, 1) := by decide +kernel
theorem dX12_roundOfSeams_34 : decode cX12_roundOfSeams 34 = .ok (.istore 4, 2) := by decide +kernel
theorem dX12_roundOfSeams_36 : decode cX12_roundOfSeams 36 = .ok (.iload_n 2, 1) := by decide +kernel
theorem dX12_roundOfSeams_37 : decode cX12_roundOfSeams 37 = .ok (.iload_n 2, 1) := by decide +kernel
theorem dX12_roundOfSeams_38 : decode cX12_roundOfSeams 38 = .ok (.iload 4, 2) := by decide +kernel
theorem dX12_roundOfSeams_40 : decode cX12_roundOfSeams 40 = .ok (.invokestatic 152, 3) := by decide +kernel
theorem dX12_roundOfSeams_43 : decode cX12_roundOfSeams 43 = .ok (.idiv, 1) := by decide +kernel
theorem dX12_roundOfSeams_44 : decode cX12_roundOfSeams 44 = .ok (.iload 4, 2) := by decide +kernel
theorem dX12_roundOfSeams_46 : decode cX12_roundOfSeams 46 = .ok (.imul, 1) := by decide +kernel
theorem dX12_roundOfSeams_47 : decode cX12_roundOfSeams 47 = .ok (.istore_n 2, 1) := by decide +kernel
theorem dX12_roundOfSeams_48 : decode cX12_roundOfSeams 48 = .ok (.iinc 3 1, 3) := by decide +kernel
theorem dX12_roundOfSeams_51 : decode cX12_roundOfSeams 51 = .ok (.goto (-47), 3) := by decide +kernel
theorem dX12_roundOfSeams_54 : decode cX12_roundOfSeams 54 = .ok (.iload_n 2, 1) := by decide +kernel
theorem dX12_roundOfSeams_55 : decode cX12_roundOfSeams 55 = .ok (.ireturn, 1) := by decide +kernel
theorem dX12_areOpen_0 : decode cX12_areOpen 0 = .ok (.iconst 1, 1) := by decide +kernel
theorem dX12_areOpen_1 : decode cX12_areOpen 1 = .ok (.istore_n 3, 1) := by decide +kernel
theorem dX12_areOpen_2 : decode cX12_areOpen 2 = .ok (.iconst 0, 1) := by decide +kernel
theorem dX12_areOpen_3 : decode cX12_areOpen 3 = .ok (.istore 4, 2) := by decide +kernel
theorem dX12_areOpen_5 : decode cX12_areOpen 5 = .ok (.iload 4, 2) := by decide +kernel
theorem dX12_areOpen_7 : decode cX12_areOpen 7 = .ok (.aload_n 0, 1) := by decide +kernel
theorem dX12_areOpen_8 : decode cX12_areOpen 8 = .ok (.getfield 137, 3) := by decide +kernel
theorem dX12_areOpen_11 : decode cX12_areOpen 11 = .ok (.if_icmp .ge 38, 3) := by decide +kernel
theorem dX12_areOpen_14 : decode cX12_areOpen 14 = .ok (.iload_n 3, 1) := by decide +kernel
theorem dX12_areOpen_15 : decode cX12_areOpen 15 = .ok (.ifCond .eq 34, 3) := by decide +kernel
theorem dX12_areOpen_18 : decode cX12_areOpen 18 = .ok (.iload_n 1, 1) := by decide +kernel
theorem dX12_areOpen_19 : decode cX12_areOpen 19 = .ok (.iload 4, 2) := by decide +kernel
theorem dX12_areOpen_21 : decode cX12_areOpen 21 = .ok (.invokestatic 240, 3) := by decide +kernel
theorem dX12_areOpen_24 : decode cX12_areOpen 24 = .ok (.ifCond .eq 13, 3) := by decide +kernel
theorem dX12_areOpen_27 : decode cX12_areOpen 27 = .ok (.aload_n 0, 1) := by decide +kernel
theorem dX12_areOpen_28 : decode cX12_areOpen 28 = .ok (.iload 4, 2) := by decide +kernel
theorem dX12_areOpen_30 : decode cX12_areOpen 30 = .ok (.iload_n 2, 1) := by decide +kernel
theorem dX12_areOpen_31 : decode cX12_areOpen 31 = .ok (.invokevirtual 169, 3) := by decide +kernel
theorem dX12_areOpen_34 : decode cX12_areOpen 34 = .ok (.ifCond .eq 7, 3) := by decide +kernel
theorem dX12_areOpen_37 : decode cX12_areOpen 37 = .ok (.iconst 1, 1) := by decide +kernel
theorem dX12_areOpen_38 : decode cX12_areOpen 38 = .ok (.goto 4, 3) := by decide +kernel
theorem dX12_areOpen_41 : decode cX12_areOpen 41 = .ok (.iconst 0, 1) := by decide +kernel
theorem dX12_areOpen_42 : decode cX12_areOpen 42 = .ok (.istore_n 3, 1) := by decide +kernel
theorem dX12_areOpen_43 : decode cX12_areOpen 43 = .ok (.iinc 4 1, 3) := by decide +kernel
theorem dX12_areOpen_46 : decode cX12_areOpen 46 = .ok (.goto (-41), 3) := by decide +kernel
theorem dX12_areOpen_49 : decode cX12_areOpen 49 = .ok (.iload_n 3, 1) := by decide +kernel
theorem dX12_areOpen_50 : decode cX12_areOpen 50 = .ok (.ireturn, 1) := by decide +kernel
theorem dX12_open_0 : decode cX12_open 0 = .ok (.aload_n 0, 1) := by decide +kernel
theorem dX12_open_1 : decode cX12_open 1 = .ok (.iload_n 1, 1) := by decide +kernel
theorem dX12_open_2 : decode cX12_open 2 = .ok (.invokevirtual 257, 3) := by decide +kernel
theorem dX12_open_5 : decode cX12_open 5 = .ok (.ifCond .ne 6, 3) := by decide +kernel
theorem dX12_open_8 : decode cX12_open 8 = .ok (.ldc 190, 2) := by decide +kernel
theorem dX12_open_10 : decode cX12_open 10 = .ok (.ireturn, 1) := by decide +kernel
theorem dX12_open_11 : decode cX12_open 11 = .ok (.aload_n 0, 1) := by decide +kernel
theorem dX12_open_12 : decode cX12_open 12 = .ok (.iload_n 1, 1) := by decide +kernel
theorem dX12_open_13 : decode cX12_open 13 = .ok (.invokevirtual 260, 3) := by decide +kernel
theorem dX12_open_16 : decode cX12_open 16 = .ok (.istore_n 2, 1) := by decide +kernel
theorem dX12_open_17 : decode cX12_open 17 = .ok (.iconst 0, 1) := by decide +kernel
theorem dX12_open_18 : decode cX12_open 18 = .ok (.istore_n 3, 1) := by decide +kernel
theorem dX12_open_19 : decode cX12_open 19 = .ok (.iload_n 3, 1) := by decide +kernel
theorem dX12_open_20 : decode cX12_open 20 = .ok (.iload_n 2, 1) := by decide +kernel
theorem dX12_open_21 : decode cX12_open 21 = .ok (.if_icmp .ge 27, 3) := by decide +kernel
theorem dX12_open_24 : decode cX12_open 24 = .ok (.aload_n 0, 1) := by decide +kernel
theorem dX12_open_25 : decode cX12_open 25 = .ok (.iload_n 1, 1) := by decide +kernel
theorem dX12_open_26 : decode cX12_open 26 = .ok (.aload_n 0, 1) := by decide +kernel
theorem dX12_open_27 : decode cX12_open 27 = .ok (.getfield 7, 3) := by decide +kernel
theorem dX12_open_30 : decode cX12_open 30 = .ok (.iconst 0, 1) := by decide +kernel
theorem dX12_open_31 : decode cX12_open 31 = .ok (.iaload, 1) := by decide +kernel
theorem dX12_open_32 : decode cX12_open 32 = .ok (.iload_n 3, 1) := by decide +kernel
theorem dX12_open_33 : decode cX12_open 33 = .ok (.iadd, 1) := by decide +kernel
theorem dX12_open_34 : decode cX12_open 34 = .ok (.invokevirtual 263, 3) := by decide +kernel
theorem dX12_open_37 : decode cX12_open 37 = .ok (.ifCond .eq 5, 3) := by decide +kernel
theorem dX12_open_40 : decode cX12_open 40 = .ok (.iload_n 3, 1) := by decide +kernel
theorem dX12_open_41 : decode cX12_open 41 = .ok (.ireturn, 1) := by decide +kernel
theorem dX12_open_42 : decode cX12_open 42 = .ok (.iinc 3 1, 3) := by decide +kernel
theorem dX12_open_45 : decode cX12_open 45 = .ok (.goto (-26), 3) := by decide +kernel
theorem dX12_open_48 : decode cX12_open 48 = .ok (.iconst (-1), 1) := by decide +kernel
theorem dX12_open_49 : decode cX12_open 49 = .ok (.ireturn, 1) := by decide +kernel
theorem dX12_longest_0 : decode cX12_longest 0 = .ok (.aload_n 0, 1) := by decide +kernel
theorem dX12_longest_1 : decode cX12_longest 1 = .ok (.iload_n 1, 1) := by decide +kernel
theorem dX12_longest_2 : decode cX12_longest 2 = .ok (.invokevirtual 257, 3) := by decide +kernel
theorem dX12_longest_5 : decode cX12_longest 5 = .ok (.ifCond .ne 6, 3) := by decide +kernel
theorem dX12_longest_8 : decode cX12_longest 8 = .ok (.ldc 190, 2) := by decide +kernel
theorem dX12_longest_10 : decode cX12_longest 10 = .ok (.ireturn, 1) := by decide +kernel
theorem dX12_longest_11 : decode cX12_longest 11 = .ok (.aload_n 0, 1) := by decide +kernel
theorem dX12_longest_12 : decode cX12_longest 12 = .ok (.iload_n 1, 1) := by decide +kernel
theorem dX12_longest_13 : decode cX12_longest 13 = .ok (.invokevirtual 260, 3) := by decide +kernel
theorem dX12_longest_16 : decode cX12_longest 16 = .ok (.istore_n 2, 1) := by decide +kernel
theorem dX12_longest_17 : decode cX12_longest 17 = .ok (.iconst 0, 1) := by decide +kernel
theorem dX12_longest_18 : decode cX12_longest 18 = .ok (.istore_n 3, 1) := by decide +kernel
theorem dX12_longest_19 : decode cX12_longest 19 = .ok (.iconst 0, 1) := by decide +kernel
theorem dX12_longest_20 : decode cX12_longest 20 = .ok (.istore 4, 2) := by decide +kernel
theorem dX12_longest_22 : decode cX12_longest 22 = .ok (.iconst 0, 1) := by decide +kernel
theorem dX12_longest_23 : decode cX12_longest 23 = .ok (.istore 5, 2) := by decide +kernel
theorem dX12_longest_25 : decode cX12_longest 25 = .ok (.iload 5, 2) := by decide +kernel
theorem dX12_longest_27 : decode cX12_longest 27 = .ok (.iconst 2, 1) := by decide +kernel
theorem dX12_longest_28 : decode cX12_longest 28 = .ok (.iload_n 2, 1) := by decide +kernel
theorem dX12_longest_29 : decode cX12_longest 29 = .ok (.imul, 1) := by decide +kernel
theorem dX12_longest_30 : decode cX12_longest 30 = .ok (.if_icmp .ge 42, 3) := by decide +kernel
theorem dX12_longest_33 : decode cX12_longest 33 = .ok (.aload_n 0, 1) := by decide +kernel
theorem dX12_longest_34 : decode cX12_longest 34 = .ok (.iload_n 1, 1) := by decide +kernel
theorem dX12_longest_35 : decode cX12_longest 35 = .ok (.iload 5, 2) := by decide +kernel
theorem dX12_longest_37 : decode cX12_longest 37 = .ok (.invokevirtual 263, 3) := by decide +kernel
theorem dX12_longest_40 : decode cX12_longest 40 = .ok (.ifCond .eq 10, 3) := by decide +kernel
theorem dX12_longest_43 : decode cX12_longest 43 = .ok (.iload 4, 2) := by decide +kernel
theorem dX12_longest_45 : decode cX12_longest 45 = .ok (.iconst 1, 1) := by decide +kernel
theorem dX12_longest_46 : decode cX12_longest 46 = .ok (.iadd, 1) := by decide +kernel
theorem dX12_longest_47 : decode cX12_longest 47 = .ok (.goto 4, 3) := by decide +kernel
theorem dX12_longest_50 : decode cX12_longest 50 = .ok (.iconst 0, 1) := by decide +kernel
theorem dX12_longest_51 : decode cX12_longest 51 = .ok (.istore 4, 2) := by decide +kernel
theorem dX12_longest_53 : decode cX12_longest 53 = .ok (.iload 4, 2) := by decide +kernel
theorem dX12_longest_55 : decode cX12_longest 55 = .ok (.iload_n 3, 1) := by decide +kernel
theorem dX12_longest_56 : decode cX12_longest 56 = .ok (.if_icmp .le 8, 3) := by decide +kernel
theorem dX12_longest_59 : decode cX12_longest 59 = .ok (.iload 4, 2) := by decide +kernel
theorem dX12_longest_61 : decode cX12_longest 61 = .ok (.goto 4, 3) := by decide +kernel
theorem dX12_longest_64 : decode cX12_longest 64 = .ok (.iload_n 3, 1) := by decide +kernel
theorem dX12_longest_65 : decode cX12_longest 65 = .ok (.istore_n 3, 1) := by decide +kernel
theorem dX12_longest_66 : decode cX12_longest 66 = .ok (.iinc 5 1, 3) := by decide +kernel
theorem dX12_longest_69 : decode cX12_longest 69 = .ok (.goto (-44), 3) := by decide +kernel
theorem dX12_longest_72 : decode cX12_longest 72 = .ok (.iload_n 3, 1) := by decide +kernel
theorem dX12_longest_73 : decode cX12_longest 73 = .ok (.iconst 2, 1) := by decide +kernel
theorem dX12_longest_74 : decode cX12_longest 74 = .ok (.iload_n 2, 1) := by decide +kernel
theorem dX12_longest_75 : decode cX12_longest 75 = .ok (.imul, 1) := by decide +kernel
theorem dX12_longest_76 : decode cX12_longest 76 = .ok (.if_icmp .ne 7, 3) := by decide +kernel
theorem dX12_longest_79 : decode cX12_longest 79 = .ok (.iconst (-1), 1) := by decide +kernel
theorem dX12_longest_80 : decode cX12_longest 80 = .ok (.goto 4, 3) := by decide +kernel
theorem dX12_longest_83 : decode cX12_longest 83 = .ok (.iload_n 3, 1) := by decide +kernel
theorem dX12_longest_84 : decode cX12_longest 84 = .ok (.ireturn, 1) := by decide +kernel
theorem dX12_hear_0 : decode cX12_hear 0 = .ok (.aload_n 0, 1) := by decide +kernel
theorem dX12_hear_1 : decode cX12_hear 1 = .ok (.iload_n 1, 1) := by decide +kernel
theorem dX12_hear_2 : decode cX12_hear 2 = .ok (.invokevirtual 186, 3) := by decide +kernel
theorem dX12_hear_5 : decode cX12_hear 5 = .ok (.ifCond .ne 6, 3) := by decide +kernel
theorem dX12_hear_8 : decode cX12_hear 8 = .ok (.ldc 190, 2) := by decide +kernel
theorem dX12_hear_10 : decode cX12_hear 10 = .ok (.ireturn, 1) := by decide +kernel
theorem dX12_hear_11 : decode cX12_hear 11 = .ok (.iload_n 2, 1) := by decide +kernel
theorem dX12_hear_12 : decode cX12_hear 12 = .ok (.i2l, 1) := by decide +kernel
theorem dX12_hear_13 : decode cX12_hear 13 = .ok (.lconst 0, 1) := by decide +kernel
theorem dX12_hear_14 : decode cX12_hear 14 = .ok (.ldc2_w 251, 3) := by decide +kernel
theorem dX12_hear_17 : decode cX12_hear 17 = .ok (.invokestatic 68, 3) := by decide +kernel
theorem dX12_hear_20 : decode cX12_hear 20 = .ok (.ifCond .ne 6, 3) := by decide +kernel
theorem dX12_hear_23 : decode cX12_hear 23 = .ok (.ldc 72, 2) := by decide +kernel
theorem dX12_hear_25 : decode cX12_hear 25 = .ok (.ireturn, 1) := by decide +kernel
theorem dX12_hear_26 : decode cX12_hear 26 = .ok (.aload_n 0, 1) := by decide +kernel
theorem dX12_hear_27 : decode cX12_hear 27 = .ok (.getfield 140, 3) := by decide +kernel
theorem dX12_hear_30 : decode cX12_hear 30 = .ok (.bipush 12, 2) := by decide +kernel
theorem dX12_hear_32 : decode cX12_hear 32 = .ok (.if_icmp .ne 6, 3) := by decide +kernel
theorem dX12_hear_35 : decode cX12_hear 35 = .ok (.ldc 76, 2) := by decide +kernel
theorem dX12_hear_37 : decode cX12_hear 37 = .ok (.ireturn, 1) := by decide +kernel
theorem dX12_hear_38 : decode cX12_hear 38 = .ok (.aload_n 0, 1) := by decide +kernel
theorem dX12_hear_39 : decode cX12_hear 39 = .ok (.getfield 42, 3) := by decide +kernel
theorem dX12_hear_42 : decode cX12_hear 42 = .ok (.aload_n 0, 1) := by decide +kernel
theorem dX12_hear_43 : decode cX12_hear 43 = .ok (.getfield 140, 3) := by decide +kernel
theorem dX12_hear_46 : decode cX12_hear 46 = .ok (.iload_n 1, 1) := by decide +kernel
theorem dX12_hear_47 : decode cX12_hear 47 = .ok (.iastore, 1) := by decide +kernel
theorem dX12_hear_48 : decode cX12_hear 48 = .ok (.aload_n 0, 1) := by decide +kernel
theorem dX12_hear_49 : decode cX12_hear 49 = .ok (.getfield 45, 3) := by decide +kernel
theorem dX12_hear_52 : decode cX12_hear 52 = .ok (.aload_n 0, 1) := by decide +kernel
theorem dX12_hear_53 : decode cX12_hear 53 = .ok (.getfield 140, 3) := by decide +kernel
theorem dX12_hear_56 : decode cX12_hear 56 = .ok (.iload_n 2, 1) := by decide +kernel
theorem dX12_hear_57 : decode cX12_hear 57 = .ok (.iastore, 1) := by decide +kernel
theorem dX12_hear_58 : decode cX12_hear 58 = .ok (.aload_n 0, 1) := by decide +kernel
theorem dX12_hear_59 : decode cX12_hear 59 = .ok (.dup, 1) := by decide +kernel
theorem dX12_hear_60 : decode cX12_hear 60 = .ok (.getfield 140, 3) := by decide +kernel
theorem dX12_hear_63 : decode cX12_hear 63 = .ok (.iconst 1, 1) := by decide +kernel
theorem dX12_hear_64 : decode cX12_hear 64 = .ok (.iadd, 1) := by decide +kernel
theorem dX12_hear_65 : decode cX12_hear 65 = .ok (.putfield 140, 3) := by decide +kernel
theorem dX12_hear_68 : decode cX12_hear 68 = .ok (.aload_n 0, 1) := by decide +kernel
theorem dX12_hear_69 : decode cX12_hear 69 = .ok (.getfield 140, 3) := by decide +kernel
theorem dX12_hear_72 : decode cX12_hear 72 = .ok (.ireturn, 1) := by decide +kernel
theorem dX12_couldBegin_0 : decode cX12_couldBegin 0 = .ok (.iconst 1, 1) := by decide +kernel
theorem dX12_couldBegin_1 : decode cX12_couldBegin 1 = .ok (.istore_n 3, 1) := by decide +kernel
theorem dX12_couldBegin_2 : decode cX12_couldBegin 2 = .ok (.iconst 0, 1) := by decide +kernel
theorem dX12_couldBegin_3 : decode cX12_couldBegin 3 = .ok (.istore 4, 2) := by decide +kernel
theorem dX12_couldBegin_5 : decode cX12_couldBegin 5 = .ok (.iload 4, 2) := by decide +kernel
theorem dX12_couldBegin_7 : decode cX12_couldBegin 7 = .ok (.aload_n 0, 1) := by decide +kernel
theorem dX12_couldBegin_8 : decode cX12_couldBegin 8 = .ok (.getfield 140, 3) := by decide +kernel
theorem dX12_couldBegin_11 : decode cX12_couldBegin 11 = .ok (.if_icmp .ge 43, 3) := by decide +kernel
theorem dX12_couldBegin_14 : decode cX12_couldBegin 14 = .ok (.iload_n 3, 1) := by decide +kernel
theorem dX12_couldBegin_15 : decode cX12_couldBegin 15 = .ok (.ifCond .eq 39, 3) := by decide +kernel
theorem dX12_couldBegin_18 : decode cX12_couldBegin 18 = .ok (.iload_n 2, 1) := by decide +kernel
theorem dX12_couldBegin_19 : decode cX12_couldBegin 19 = .ok (.aload_n 0, 1) := by decide +kernel
theorem dX12_couldBegin_20 : decode cX12_couldBegin 20 = .ok (.getfield 42, 3) := by decide +kernel
theorem dX12_couldBegin_23 : decode cX12_couldBegin 23 = .ok (.iload 4, 2) := by decide +kernel
theorem dX12_couldBegin_25 : decode cX12_couldBegin 25 = .ok (.iaload, 1) := by decide +kernel
theorem dX12_couldBegin_26 : decode cX12_couldBegin 26 = .ok (.iload_n 1, 1) := by decide +kernel
theorem dX12_couldBegin_27 : decode cX12_couldBegin 27 = .ok (.isub, 1) := by decide +kernel
theorem dX12_couldBegin_28 : decode cX12_couldBegin 28 = .ok (.invokestatic 165, 3) := by decide +kernel
theorem dX12_couldBegin_31 : decode cX12_couldBegin 31 = .ok (.isub, 1) := by decide +kernel
theorem dX12_couldBegin_32 : decode cX12_couldBegin 32 = .ok (.aload_n 0, 1) := by decide +kernel
theorem dX12_couldBegin_33 : decode cX12_couldBegin 33 = .ok (.getfield 45, 3) := by decide +kernel
theorem dX12_couldBegin_36 : decode cX12_couldBegin 36 = .ok (.iload 4, 2) := by decide +kernel
theorem dX12_couldBegin_38 : decode cX12_couldBegin 38 = .ok (.iaload, 1) := by decide +kernel
theorem dX12_couldBegin_39 : decode cX12_couldBegin 39 = .ok (.if_icmp .ne 7, 3) := by decide +kernel
theorem dX12_couldBegin_42 : decode cX12_couldBegin 42 = .ok (.iconst 1, 1) := by decide +kernel
theorem dX12_couldBegin_43 : decode cX12_couldBegin 43 = .ok (.goto 4, 3) := by decide +kernel
theorem dX12_couldBegin_46 : decode cX12_couldBegin 46 = .ok (.iconst 0, 1) := by decide +kernel
theorem dX12_couldBegin_47 : decode cX12_couldBegin 47 = .ok (.istore_n 3, 1) := by decide +kernel
theorem dX12_couldBegin_48 : decode cX12_couldBegin 48 = .ok (.iinc 4 1, 3) := by decide +kernel
theorem dX12_couldBegin_51 : decode cX12_couldBegin 51 = .ok (.goto (-46), 3) := by decide +kernel
theorem dX12_couldBegin_54 : decode cX12_couldBegin 54 = .ok (.iload_n 3, 1) := by decide +kernel
theorem dX12_couldBegin_55 : decode cX12_couldBegin 55 = .ok (.ireturn, 1) := by decide +kernel
theorem dX12_began_0 : decode cX12_began 0 = .ok (.iconst 0, 1) := by decide +kernel
theorem dX12_began_1 : decode cX12_began 1 = .ok (.istore_n 2, 1) := by decide +kernel
theorem dX12_began_2 : decode cX12_began 2 = .ok (.iconst 0, 1) := by decide +kernel
theorem dX12_began_3 : decode cX12_began 3 = .ok (.istore_n 3, 1) := by decide +kernel
theorem dX12_began_4 : decode cX12_began 4 = .ok (.iload_n 3, 1) := by decide +kernel
theorem dX12_began_5 : decode cX12_began 5 = .ok (.aload_n 0, 1) := by decide +kernel
theorem dX12_began_6 : decode cX12_began 6 = .ok (.getfield 131, 3) := by decide +kernel
theorem dX12_began_9 : decode cX12_began 9 = .ok (.if_icmp .ge 51, 3) := by decide +kernel
theorem dX12_began_12 : decode cX12_began 12 = .ok (.iconst 0, 1) := by decide +kernel
theorem dX12_began_13 : decode cX12_began 13 = .ok (.istore 4, 2) := by decide +kernel
theorem dX12_began_15 : decode cX12_began 15 = .ok (.iload 4, 2) := by decide +kernel
theorem dX12_began_17 : decode cX12_began 17 = .ok (.bipush 30, 2) := by decide +kernel
theorem dX12_began_19 : decode cX12_began 19 = .ok (.if_icmp .gt 35, 3) := by decide +kernel
theorem dX12_began_22 : decode cX12_began 22 = .ok (.aload_n 0, 1) := by decide +kernel
theorem dX12_began_23 : decode cX12_began 23 = .ok (.iload_n 3, 1) := by decide +kernel
theorem dX12_began_24 : decode cX12_began 24 = .ok (.iload 4, 2) := by decide +kernel
theorem dX12_began_26 : decode cX12_began 26 = .ok (.invokevirtual 266, 3) := by decide +kernel
theorem dX12_began_29 : decode cX12_began 29 = .ok (.ifCond .eq 19, 3) := by decide +kernel
theorem dX12_began_32 : decode cX12_began 32 = .ok (.iload_n 2, 1) := by decide +kernel
theorem dX12_began_33 : decode cX12_began 33 = .ok (.iload_n 1, 1) := by decide +kernel
theorem dX12_began_34 : decode cX12_began 34 = .ok (.if_icmp .ne 11, 3) := by decide +kernel
theorem dX12_began_37 : decode cX12_began 37 = .ok (.bipush 100, 2) := by decide +kernel
theorem dX12_began_39 : decode cX12_began 39 = .ok (.iload_n 3, 1) := by decide +kernel
theorem dX12_began_40 : decode cX12_began 40 = .ok (.imul, 1) := by decide +kernel
theorem dX12_began_41 : decode cX12_began 41 = .ok (.iload 4, 2) := by decide +kernel
theorem dX12_began_43 : decode cX12_began 43 = .ok (.iadd, 1) := by decide +kernel
theorem dX12_began_44 : decode cX12_began 44 = .ok (.ireturn, 1) := by decide +kernel
theorem dX12_began_45 : decode cX12_began 45 = .ok (.iinc 2 1, 3) := by decide +kernel
theorem dX12_began_48 : decode cX12_began 48 = .ok (.iinc 4 1, 3) := by decide +kernel
theorem dX12_began_51 : decode cX12_began 51 = .ok (.goto (-36), 3) := by decide +kernel
theorem dX12_began_54 : decode cX12_began 54 = .ok (.iinc 3 1, 3) := by decide +kernel
theorem dX12_began_57 : decode cX12_began 57 = .ok (.goto (-53), 3) := by decide +kernel
theorem dX12_began_60 : decode cX12_began 60 = .ok (.iload_n 1, 1) := by decide +kernel
theorem dX12_began_61 : decode cX12_began 61 = .ok (.iconst (-1), 1) := by decide +kernel
theorem dX12_began_62 : decode cX12_began 62 = .ok (.if_icmp .ne 7, 3) := by decide +kernel
theorem dX12_began_65 : decode cX12_began 65 = .ok (.iload_n 2, 1) := by decide +kernel
theorem dX12_began_66 : decode cX12_began 66 = .ok (.goto 4, 3) := by decide +kernel
theorem dX12_began_69 : decode cX12_began 69 = .ok (.iconst (-1), 1) := by decide +kernel
theorem dX12_began_70 : decode cX12_began 70 = .ok (.ireturn, 1) := by decide +kernel
theorem dX12_greatestPart_0 : decode cX12_greatestPart 0 = .ok (.iconst 0, 1) := by decide +kernel
theorem dX12_greatestPart_1 : decode cX12_greatestPart 1 = .ok (.istore_n 2, 1) := by decide +kernel
theorem dX12_greatestPart_2 : decode cX12_greatestPart 2 = .ok (.iload_n 2, 1) := by decide +kernel
theorem dX12_greatestPart_3 : decode cX12_greatestPart 3 = .ok (.bipush 40, 2) := by decide +kernel
theorem dX12_greatestPart_5 : decode cX12_greatestPart 5 = .ok (.if_icmp .ge 16, 3) := by decide +kernel
theorem dX12_greatestPart_8 : decode cX12_greatestPart 8 = .ok (.aload_n 0, 1) := by decide +kernel
theorem dX12_greatestPart_9 : decode cX12_greatestPart 9 = .ok (.getfield 48, 3) := by decide +kernel
theorem dX12_greatestPart_12 : decode cX12_greatestPart 12 = .ok (.iload_n 2, 1) := by decide +kernel
theorem dX12_greatestPart_13 : decode cX12_greatestPart 13 = .ok (.iconst 0, 1) := by decide +kernel
theorem dX12_greatestPart_14 : decode cX12_greatestPart 14 = .ok (.iastore, 1) := by decide +kernel
theorem dX12_greatestPart_15 : decode cX12_greatestPart 15 = .ok (.iinc 2 1, 3) := by decide +kernel
theorem dX12_greatestPart_18 : decode cX12_greatestPart 18 = .ok (.goto (-16), 3) := by decide +kernel
theorem dX12_greatestPart_21 : decode cX12_greatestPart 21 = .ok (.iconst 0, 1) := by decide +kernel
theorem dX12_greatestPart_22 : decode cX12_greatestPart 22 = .ok (.istore_n 2, 1) := by decide +kernel
theorem dX12_greatestPart_23 : decode cX12_greatestPart 23 = .ok (.iconst 0, 1) := by decide +kernel
theorem dX12_greatestPart_24 : decode cX12_greatestPart 24 = .ok (.istore_n 3, 1) := by decide +kernel
theorem dX12_greatestPart_25 : decode cX12_greatestPart 25 = .ok (.iload_n 3, 1) := by decide +kernel
theorem dX12_greatestPart_26 : decode cX12_greatestPart 26 = .ok (.aload_n 0, 1) := by decide +kernel
theorem dX12_greatestPart_27 : decode cX12_greatestPart 27 = .ok (.getfield 131, 3) := by decide +kernel
theorem dX12_greatestPart_30 : decode cX12_greatestPart 30 = .ok (.if_icmp .ge 82, 3) := by decide +kernel
theorem dX12_greatestPart_33 : decode cX12_greatestPart 33 = .ok (.iconst 0, 1) := by decide +kernel
theorem dX12_greatestPart_34 : decode cX12_greatestPart 34 = .ok (.istore 4, 2) := by decide +kernel
theorem dX12_greatestPart_36 : decode cX12_greatestPart 36 = .ok (.iload 4, 2) := by decide +kernel
theorem dX12_greatestPart_38 : decode cX12_greatestPart 38 = .ok (.bipush 30, 2) := by decide +kernel
theorem dX12_greatestPart_40 : decode cX12_greatestPart 40 = .ok (.if_icmp .gt 66, 3) := by decide +kernel
theorem dX12_greatestPart_43 : decode cX12_greatestPart 43 = .ok (.bipush 8, 2) := by decide +kernel
theorem dX12_greatestPart_45 : decode cX12_greatestPart 45 = .ok (.iload 4, 2) := by decide +kernel
theorem dX12_greatestPart_47 : decode cX12_greatestPart 47 = .ok (.iadd, 1) := by decide +kernel
theorem dX12_greatestPart_48 : decode cX12_greatestPart 48 = .ok (.iload_n 1, 1) := by decide +kernel
theorem dX12_greatestPart_49 : decode cX12_greatestPart 49 = .ok (.iload_n 3, 1) := by decide +kernel
theorem dX12_greatestPart_50 : decode cX12_greatestPart 50 = .ok (.isub, 1) := by decide +kernel
theorem dX12_greatestPart_51 : decode cX12_greatestPart 51 = .ok (.invokestatic 165, 3) := by decide +kernel
theorem dX12_greatestPart_54 : decode cX12_greatestPart 54 = .ok (.isub, 1) := by decide +kernel
theorem dX12_greatestPart_55 : decode cX12_greatestPart 55 = .ok (.istore 5, 2) := by decide +kernel
theorem dX12_greatestPart_57 : decode cX12_greatestPart 57 = .ok (.aload_n 0, 1) := by decide +kernel
theorem dX12_greatestPart_58 : decode cX12_greatestPart 58 = .ok (.getfield 48, 3) := by decide +kernel
theorem dX12_greatestPart_61 : decode cX12_greatestPart 61 = .ok (.iload 5, 2) := by decide +kernel
theorem dX12_greatestPart_63 : decode cX12_greatestPart 63 = .ok (.dup2, 1) := by decide +kernel
theorem dX12_greatestPart_64 : decode cX12_greatestPart 64 = .ok (.iaload, 1) := by decide +kernel
theorem dX12_greatestPart_65 : decode cX12_greatestPart 65 = .ok (.aload_n 0, 1) := by decide +kernel
theorem dX12_greatestPart_66 : decode cX12_greatestPart 66 = .ok (.iload_n 3, 1) := by decide +kernel
theorem dX12_greatestPart_67 : decode cX12_greatestPart 67 = .ok (.iload 4, 2) := by decide +kernel
theorem dX12_greatestPart_69 : decode cX12_greatestPart 69 = .ok (.invokevirtual 266, 3) := by decide +kernel
theorem dX12_greatestPart_72 : decode cX12_greatestPart 72 = .ok (.invokestatic 173, 3) := by decide +kernel
theorem dX12_greatestPart_75 : decode cX12_greatestPart 75 = .ok (.iadd, 1) := by decide +kernel
theorem dX12_greatestPart_76 : decode cX12_greatestPart 76 = .ok (.iastore, 1) := by decide +kernel
theorem dX12_greatestPart_77 : decode cX12_greatestPart 77 = .ok (.aload_n 0, 1) := by decide +kernel
theorem dX12_greatestPart_78 : decode cX12_greatestPart 78 = .ok (.getfield 48, 3) := by decide +kernel
theorem dX12_greatestPart_81 : decode cX12_greatestPart 81 = .ok (.iload 5, 2) := by decide +kernel
theorem dX12_greatestPart_83 : decode cX12_greatestPart 83 = .ok (.iaload, 1) := by decide +kernel
theorem dX12_greatestPart_84 : decode cX12_greatestPart 84 = .ok (.iload_n 2, 1) := by decide +kernel
theorem dX12_greatestPart_85 : decode cX12_greatestPart 85 = .ok (.if_icmp .le 13, 3) := by decide +kernel
theorem dX12_greatestPart_88 : decode cX12_greatestPart 88 = .ok (.aload_n 0, 1) := by decide +kernel
theorem dX12_greatestPart_89 : decode cX12_greatestPart 89 = .ok (.getfield 48, 3) := by decide +kernel
theorem dX12_greatestPart_92 : decode cX12_greatestPart 92 = .ok (.iload 5, 2) := by decide +kernel
theorem dX12_greatestPart_94 : decode cX12_greatestPart 94 = .ok (.iaload, 1) := by decide +kernel
theorem dX12_greatestPart_95 : decode cX12_greatestPart 95 = .ok (.goto 4, 3) := by decide +kernel
theorem dX12_greatestPart_98 : decode cX12_greatestPart 98 = .ok (.iload_n 2, 1) := by decide +kernel
theorem dX12_greatestPart_99 : decode cX12_greatestPart 99 = .ok (.istore_n 2, 1) := by decide +kernel
theorem dX12_greatestPart_100 : decode cX12_greatestPart 100 = .ok (.iinc 4 1, 3) := by decide +kernel
theorem dX12_greatestPart_103 : decode cX12_greatestPart 103 = .ok (.goto (-67), 3) := by decide +kernel
theorem dX12_greatestPart_106 : decode cX12_greatestPart 106 = .ok (.iinc 3 1, 3) := by decide +kernel
theorem dX12_greatestPart_109 : decode cX12_greatestPart 109 = .ok (.goto (-84), 3) := by decide +kernel
theorem dX12_greatestPart_112 : decode cX12_greatestPart 112 = .ok (.iload_n 2, 1) := by decide +kernel
theorem dX12_greatestPart_113 : decode cX12_greatestPart 113 = .ok (.ireturn, 1) := by decide +kernel
theorem dX12_watch_0 : decode cX12_watch 0 = .ok (.iconst (-1), 1) := by decide +kernel
theorem dX12_watch_1 : decode cX12_watch 1 = .ok (.istore_n 1, 1) := by decide +kernel
theorem dX12_watch_2 : decode cX12_watch 2 = .ok (.aload_n 0, 1) := by decide +kernel
theorem dX12_watch_3 : decode cX12_watch 3 = .ok (.iconst (-1), 1) := by decide +kernel
theorem dX12_watch_4 : decode cX12_watch 4 = .ok (.invokevirtual 269, 3) := by decide +kernel
theorem dX12_watch_7 : decode cX12_watch 7 = .ok (.istore_n 2, 1) := by decide +kernel
theorem dX12_watch_8 : decode cX12_watch 8 = .ok (.iconst 0, 1) := by decide +kernel
theorem dX12_watch_9 : decode cX12_watch 9 = .ok (.istore_n 3, 1) := by decide +kernel
theorem dX12_watch_10 : decode cX12_watch 10 = .ok (.iload_n 3, 1) := by decide +kernel
theorem dX12_watch_11 : decode cX12_watch 11 = .ok (.aload_n 0, 1) := by decide +kernel
theorem dX12_watch_12 : decode cX12_watch 12 = .ok (.getfield 131, 3) := by decide +kernel
theorem dX12_watch_15 : decode cX12_watch 15 = .ok (.if_icmp .ge 27, 3) := by decide +kernel
theorem dX12_watch_18 : decode cX12_watch 18 = .ok (.aload_n 0, 1) := by decide +kernel
theorem dX12_watch_19 : decode cX12_watch 19 = .ok (.iload_n 3, 1) := by decide +kernel
theorem dX12_watch_20 : decode cX12_watch 20 = .ok (.invokevirtual 272, 3) := by decide +kernel
theorem dX12_watch_23 : decode cX12_watch 23 = .ok (.istore 4, 2) := by decide +kernel
theorem dX12_watch_25 : decode cX12_watch 25 = .ok (.iload 4, 2) := by decide +kernel
theorem dX12_watch_27 : decode cX12_watch 27 = .ok (.iload_n 2, 1) := by decide +kernel
theorem dX12_watch_28 : decode cX12_watch 28 = .ok (.if_icmp .ge 8, 3) := by decide +kernel
theorem dX12_watch_31 : decode cX12_watch 31 = .ok (.iload_n 3, 1) := by decide +kernel
theorem dX12_watch_32 : decode cX12_watch 32 = .ok (.istore_n 1, 1) := by decide +kernel
theorem dX12_watch_33 : decode cX12_watch 33 = .ok (.iload 4, 2) := by decide +kernel
theorem dX12_watch_35 : decode cX12_watch 35 = .ok (.istore_n 2, 1) := by decide +kernel
theorem dX12_watch_36 : decode cX12_watch 36 = .ok (.iinc 3 1, 3) := by decide +kernel
theorem dX12_watch_39 : decode cX12_watch 39 = .ok (.goto (-29), 3) := by decide +kernel
theorem dX12_watch_42 : decode cX12_watch 42 = .ok (.iload_n 1, 1) := by decide +kernel
theorem dX12_watch_43 : decode cX12_watch 43 = .ok (.ireturn, 1) := by decide +kernel
theorem dX12_see_0 : decode cX12_see 0 = .ok (.aload_n 0, 1) := by decide +kernel
theorem dX12_see_1 : decode cX12_see 1 = .ok (.iload_n 1, 1) := by decide +kernel
theorem dX12_see_2 : decode cX12_see 2 = .ok (.invokevirtual 186, 3) := by decide +kernel
theorem dX12_see_5 : decode cX12_see 5 = .ok (.ifCond .ne 6, 3) := by decide +kernel
theorem dX12_see_8 : decode cX12_see 8 = .ok (.ldc 190, 2) := by decide +kernel
theorem dX12_see_10 : decode cX12_see 10 = .ok (.ireturn, 1) := by decide +kernel
theorem dX12_see_11 : decode cX12_see 11 = .ok (.iload_n 2, 1) := by decide +kernel
theorem dX12_see_12 : decode cX12_see 12 = .ok (.i2l, 1) := by decide +kernel
theorem dX12_see_13 : decode cX12_see 13 = .ok (.lconst 0, 1) := by decide +kernel
theorem dX12_see_14 : decode cX12_see 14 = .ok (.ldc2_w 275, 3) := by decide +kernel
theorem dX12_see_17 : decode cX12_see 17 = .ok (.invokestatic 68, 3) := by decide +kernel
theorem dX12_see_20 : decode cX12_see 20 = .ok (.ifCond .eq 15, 3) := by decide +kernel
theorem dX12_see_23 : decode cX12_see 23 = .ok (.iload_n 3, 1) := by decide +kernel
theorem dX12_see_24 : decode cX12_see 24 = .ok (.i2l, 1) := by decide +kernel
theorem dX12_see_25 : decode cX12_see 25 = .ok (.lconst 0, 1) := by decide +kernel
theorem dX12_see_26 : decode cX12_see 26 = .ok (.ldc2_w 198, 3) := by decide +kernel
theorem dX12_see_29 : decode cX12_see 29 = .ok (.invokestatic 68, 3) := by decide +kernel
theorem dX12_see_32 : decode cX12_see 32 = .ok (.ifCond .ne 6, 3) := by decide +kernel
theorem dX12_see_35 : decode cX12_see 35 = .ok (.ldc 72, 2) := by decide +kernel
theorem dX12_see_37 : decode cX12_see 37 = .ok (.ireturn, 1) := by decide +kernel
theorem dX12_see_38 : decode cX12_see 38 = .ok (.aload_n 0, 1) := by decide +kernel
theorem dX12_see_39 : decode cX12_see 39 = .ok (.getfield 143, 3) := by decide +kernel
theorem dX12_see_42 : decode cX12_see 42 = .ok (.bipush 12, 2) := by decide +kernel
theorem dX12_see_44 : decode cX12_see 44 = .ok (.if_icmp .ne 6, 3) := by decide +kernel
theorem dX12_see_47 : decode cX12_see 47 = .ok (.ldc 76, 2) := by decide +kernel
theorem dX12_see_49 : decode cX12_see 49 = .ok (.ireturn, 1) := by decide +kernel
theorem dX12_see_50 : decode cX12_see 50 = .ok (.aload_n 0, 1) := by decide +kernel
theorem dX12_see_51 : decode cX12_see 51 = .ok (.getfield 51, 3) := by decide +kernel
theorem dX12_see_54 : decode cX12_see 54 = .ok (.aload_n 0, 1) := by decide +kernel
theorem dX12_see_55 : decode cX12_see 55 = .ok (.getfield 143, 3) := by decide +kernel
theorem dX12_see_58 : decode cX12_see 58 = .ok (.iload_n 1, 1) := by decide +kernel
theorem dX12_see_59 : decode cX12_see 59 = .ok (.iastore, 1) := by decide +kernel
theorem dX12_see_60 : decode cX12_see 60 = .ok (.aload_n 0, 1) := by decide +kernel
theorem dX12_see_61 : decode cX12_see 61 = .ok (.getfield 54, 3) := by decide +kernel
theorem dX12_see_64 : decode cX12_see 64 = .ok (.aload_n 0, 1) := by decide +kernel
theorem dX12_see_65 : decode cX12_see 65 = .ok (.getfield 143, 3) := by decide +kernel
theorem dX12_see_68 : decode cX12_see 68 = .ok (.iload_n 2, 1) := by decide +kernel
theorem dX12_see_69 : decode cX12_see 69 = .ok (.iastore, 1) := by decide +kernel
theorem dX12_see_70 : decode cX12_see 70 = .ok (.aload_n 0, 1) := by decide +kernel
theorem dX12_see_71 : decode cX12_see 71 = .ok (.getfield 57, 3) := by decide +kernel
theorem dX12_see_74 : decode cX12_see 74 = .ok (.aload_n 0, 1) := by decide +kernel
theorem dX12_see_75 : decode cX12_see 75 = .ok (.getfield 143, 3) := by decide +kernel
theorem dX12_see_78 : decode cX12_see 78 = .ok (.iload_n 3, 1) := by decide +kernel
theorem dX12_see_79 : decode cX12_see 79 = .ok (.iastore, 1) := by decide +kernel
theorem dX12_see_80 : decode cX12_see 80 = .ok (.aload_n 0, 1) := by decide +kernel
theorem dX12_see_81 : decode cX12_see 81 = .ok (.dup, 1) := by decide +kernel
theorem dX12_see_82 : decode cX12_see 82 = .ok (.getfield 143, 3) := by decide +kernel
theorem dX12_see_85 : decode cX12_see 85 = .ok (.iconst 1, 1) := by decide +kernel
theorem dX12_see_86 : decode cX12_see 86 = .ok (.iadd, 1) := by decide +kernel
theorem dX12_see_87 : decode cX12_see 87 = .ok (.putfield 143, 3) := by decide +kernel
theorem dX12_see_90 : decode cX12_see 90 = .ok (.aload_n 0, 1) := by decide +kernel
theorem dX12_see_91 : decode cX12_see 91 = .ok (.getfield 143, 3) := by decide +kernel
theorem dX12_see_94 : decode cX12_see 94 = .ok (.ireturn, 1) := by decide +kernel
theorem dX12_goesRound_0 : decode cX12_goesRound 0 = .ok (.iconst 1, 1) := by decide +kernel
theorem dX12_goesRound_1 : decode cX12_goesRound 1 = .ok (.istore 4, 2) := by decide +kernel
theorem dX12_goesRound_3 : decode cX12_goesRound 3 = .ok (.iconst 0, 1) := by decide +kernel
theorem dX12_goesRound_4 : decode cX12_goesRound 4 = .ok (.istore 5, 2) := by decide +kernel
theorem dX12_goesRound_6 : decode cX12_goesRound 6 = .ok (.iload 5, 2) := by decide +kernel
theorem dX12_goesRound_8 : decode cX12_goesRound 8 = .ok (.aload_n 0, 1) := by decide +kernel
theorem dX12_goesRound_9 : decode cX12_goesRound 9 = .ok (.getfield 143, 3) := by decide +kernel
theorem dX12_goesRound_12 : decode cX12_goesRound 12 = .ok (.if_icmp .ge 72, 3) := by decide +kernel
theorem dX12_goesRound_15 : decode cX12_goesRound 15 = .ok (.iload 4, 2) := by decide +kernel
theorem dX12_goesRound_17 : decode cX12_goesRound 17 = .ok (.ifCond .eq 67, 3) := by decide +kernel
theorem dX12_goesRound_20 : decode cX12_goesRound 20 = .ok (.aload_n 0, 1) := by decide +kernel
theorem dX12_goesRound_21 : decode cX12_goesRound 21 = .ok (.getfield 51, 3) := by decide +kernel
theorem dX12_goesRound_24 : decode cX12_goesRound 24 = .ok (.iload 5, 2) := by decide +kernel
theorem dX12_goesRound_26 : decode cX12_goesRound 26 = .ok (.iaload, 1) := by decide +kernel
theorem dX12_goesRound_27 : decode cX12_goesRound 27 = .ok (.iload_n 1, 1) := by decide +kernel
theorem dX12_goesRound_28 : decode cX12_goesRound 28 = .ok (.if_icmp .ne 43, 3) := by decide +kernel
theorem dX12_goesRound_31 : decode cX12_goesRound 31 = .ok (.aload_n 0, 1) := by decide +kernel
theorem dX12_goesRound_32 : decode cX12_goesRound 32 = .ok (.getfield 17, 3) := by decide +kernel
theorem dX12_goesRound_35 : decode cX12_goesRound 35 = .ok (.iconst 4, 1) := by decide +kernel
theorem dX12_goesRound_36 : decode cX12_goesRound 36 = .ok (.iload_n 1, 1) := by decide +kernel
theorem dX12_goesRound_37 : decode cX12_goesRound 37 = .ok (.imul, 1) := by decide +kernel
theorem dX12_goesRound_38 : decode cX12_goesRound 38 = .ok (.iaload, 1) := by decide +kernel
theorem dX12_goesRound_39 : decode cX12_goesRound 39 = .ok (.iload_n 2, 1) := by decide +kernel
theorem dX12_goesRound_40 : decode cX12_goesRound 40 = .ok (.iload_n 3, 1) := by decide +kernel
theorem dX12_goesRound_41 : decode cX12_goesRound 41 = .ok (.aload_n 0, 1) := by decide +kernel
theorem dX12_goesRound_42 : decode cX12_goesRound 42 = .ok (.getfield 17, 3) := by decide +kernel
theorem dX12_goesRound_45 : decode cX12_goesRound 45 = .ok (.iconst 4, 1) := by decide +kernel
theorem dX12_goesRound_46 : decode cX12_goesRound 46 = .ok (.iload_n 1, 1) := by decide +kernel
theorem dX12_goesRound_47 : decode cX12_goesRound 47 = .ok (.imul, 1) := by decide +kernel
theorem dX12_goesRound_48 : decode cX12_goesRound 48 = .ok (.iconst 3, 1) := by decide +kernel
theorem dX12_goesRound_49 : decode cX12_goesRound 49 = .ok (.iadd, 1) := by decide +kernel
theorem dX12_goesRound_50 : decode cX12_goesRound 50 = .ok (.iaload, 1) := by decide +kernel
theorem dX12_goesRound_51 : decode cX12_goesRound 51 = .ok (.aload_n 0, 1) := by decide +kernel
theorem dX12_goesRound_52 : decode cX12_goesRound 52 = .ok (.getfield 54, 3) := by decide +kernel
theorem dX12_goesRound_55 : decode cX12_goesRound 55 = .ok (.iload 5, 2) := by decide +kernel
theorem dX12_goesRound_57 : decode cX12_goesRound 57 = .ok (.iaload, 1) := by decide +kernel
theorem dX12_goesRound_58 : decode cX12_goesRound 58 = .ok (.invokestatic 155, 3) := by decide +kernel
theorem dX12_goesRound_61 : decode cX12_goesRound 61 = .ok (.aload_n 0, 1) := by decide +kernel
theorem dX12_goesRound_62 : decode cX12_goesRound 62 = .ok (.getfield 57, 3) := by decide +kernel
theorem dX12_goesRound_65 : decode cX12_goesRound 65 = .ok (.iload 5, 2) := by decide +kernel
theorem dX12_goesRound_67 : decode cX12_goesRound 67 = .ok (.iaload, 1) := by decide +kernel
theorem dX12_goesRound_68 : decode cX12_goesRound 68 = .ok (.if_icmp .ne 7, 3) := by decide +kernel
theorem dX12_goesRound_71 : decode cX12_goesRound 71 = .ok (.iconst 1, 1) := by decide +kernel
theorem dX12_goesRound_72 : decode cX12_goesRound 72 = .ok (.goto 4, 3) := by decide +kernel
theorem dX12_goesRound_75 : decode cX12_goesRound 75 = .ok (.iconst 0, 1) := by decide +kernel
theorem dX12_goesRound_76 : decode cX12_goesRound 76 = .ok (.istore 4, 2) := by decide +kernel
theorem dX12_goesRound_78 : decode cX12_goesRound 78 = .ok (.iinc 5 1, 3) := by decide +kernel
theorem dX12_goesRound_81 : decode cX12_goesRound 81 = .ok (.goto (-75), 3) := by decide +kernel
theorem dX12_goesRound_84 : decode cX12_goesRound 84 = .ok (.iload 4, 2) := by decide +kernel
theorem dX12_goesRound_86 : decode cX12_goesRound 86 = .ok (.ireturn, 1) := by decide +kernel
theorem dX12_rounds_0 : decode cX12_rounds 0 = .ok (.aload_n 0, 1) := by decide +kernel
theorem dX12_rounds_1 : decode cX12_rounds 1 = .ok (.iload_n 1, 1) := by decide +kernel
theorem dX12_rounds_2 : decode cX12_rounds 2 = .ok (.invokevirtual 186, 3) := by decide +kernel
theorem dX12_rounds_5 : decode cX12_rounds 5 = .ok (.ifCond .ne 6, 3) := by decide +kernel
theorem dX12_rounds_8 : decode cX12_rounds 8 = .ok (.ldc 190, 2) := by decide +kernel
theorem dX12_rounds_10 : decode cX12_rounds 10 = .ok (.ireturn, 1) := by decide +kernel
theorem dX12_rounds_11 : decode cX12_rounds 11 = .ok (.iconst 0, 1) := by decide +kernel
