/-! decode rows -/
theorem dX0_init_0 : decode cX0_init 0 = .ok (.aload_n 0, 1) := by decide +kernel
theorem dX0_init_1 : decode cX0_init 1 = .ok (.invokespecial 1, 3) := by decide +kernel
theorem dX0_init_4 : decode cX0_init 4 = .ok (.aload_n 0, 1) := by decide +kernel
theorem dX0_init_5 : decode cX0_init 5 = .ok (.new 7, 3) := by decide +kernel
theorem dX0_init_8 : decode cX0_init 8 = .ok (.dup, 1) := by decide +kernel
theorem dX0_init_9 : decode cX0_init 9 = .ok (.invokespecial 9, 3) := by decide +kernel
theorem dX0_init_12 : decode cX0_init 12 = .ok (.putfield 10, 3) := by decide +kernel
theorem dX0_init_15 : decode cX0_init 15 = .ok (.aload_n 0, 1) := by decide +kernel
theorem dX0_init_16 : decode cX0_init 16 = .ok (.iload_n 1, 1) := by decide +kernel
theorem dX0_init_17 : decode cX0_init 17 = .ok (.putfield 16, 3) := by decide +kernel
theorem dX0_init_20 : decode cX0_init 20 = .ok (.aload_n 0, 1) := by decide +kernel
theorem dX0_init_21 : decode cX0_init 21 = .ok (.aload_n 2, 1) := by decide +kernel
theorem dX0_init_22 : decode cX0_init 22 = .ok (.putfield 20, 3) := by decide +kernel
theorem dX0_init_25 : decode cX0_init 25 = .ok (.aload_n 0, 1) := by decide +kernel
theorem dX0_init_26 : decode cX0_init 26 = .ok (.aload_n 3, 1) := by decide +kernel
theorem dX0_init_27 : decode cX0_init 27 = .ok (.putfield 24, 3) := by decide +kernel
theorem dX0_init_30 : decode cX0_init 30 = .ok (.aload_n 0, 1) := by decide +kernel
theorem dX0_init_31 : decode cX0_init 31 = .ok (.iload 4, 2) := by decide +kernel
theorem dX0_init_33 : decode cX0_init 33 = .ok (.putfield 27, 3) := by decide +kernel
theorem dX0_init_36 : decode cX0_init 36 = .ok (.aload_n 0, 1) := by decide +kernel
theorem dX0_init_37 : decode cX0_init 37 = .ok (.iload 5, 2) := by decide +kernel
theorem dX0_init_39 : decode cX0_init 39 = .ok (.putfield 30, 3) := by decide +kernel
theorem dX0_init_42 : decode cX0_init 42 = .ok (.return_, 1) := by decide +kernel
theorem dX0_isShownBy_0 : decode cX0_isShownBy 0 = .ok (.aload_n 0, 1) := by decide +kernel
theorem dX0_isShownBy_1 : decode cX0_isShownBy 1 = .ok (.getfield 24, 3) := by decide +kernel
theorem dX0_isShownBy_4 : decode cX0_isShownBy 4 = .ok (.ifnonnull 18, 3) := by decide +kernel
theorem dX0_isShownBy_7 : decode cX0_isShownBy 7 = .ok (.aload_n 1, 1) := by decide +kernel
theorem dX0_isShownBy_8 : decode cX0_isShownBy 8 = .ok (.invokevirtual 34, 3) := by decide +kernel
theorem dX0_isShownBy_11 : decode cX0_isShownBy 11 = .ok (.ifCond .ne 7, 3) := by decide +kernel
theorem dX0_isShownBy_14 : decode cX0_isShownBy 14 = .ok (.iconst 1, 1) := by decide +kernel
theorem dX0_isShownBy_15 : decode cX0_isShownBy 15 = .ok (.goto 18, 3) := by decide +kernel
theorem dX0_isShownBy_18 : decode cX0_isShownBy 18 = .ok (.iconst 0, 1) := by decide +kernel
theorem dX0_isShownBy_19 : decode cX0_isShownBy 19 = .ok (.goto 14, 3) := by decide +kernel
theorem dX0_isShownBy_22 : decode cX0_isShownBy 22 = .ok (.aload_n 0, 1) := by decide +kernel
theorem dX0_isShownBy_23 : decode cX0_isShownBy 23 = .ok (.getfield 24, 3) := by decide +kernel
theorem dX0_isShownBy_26 : decode cX0_isShownBy 26 = .ok (.aload_n 1, 1) := by decide +kernel
theorem dX0_isShownBy_27 : decode cX0_isShownBy 27 = .ok (.getfield 40, 3) := by decide +kernel
theorem dX0_isShownBy_30 : decode cX0_isShownBy 30 = .ok (.invokevirtual 43, 3) := by decide +kernel
theorem dX0_isShownBy_33 : decode cX0_isShownBy 33 = .ok (.ireturn, 1) := by decide +kernel
theorem dX0_redirectFor_0 : decode cX0_redirectFor 0 = .ok (.aload_n 1, 1) := by decide +kernel
theorem dX0_redirectFor_1 : decode cX0_redirectFor 1 = .ok (.invokevirtual 49, 3) := by decide +kernel
theorem dX0_redirectFor_4 : decode cX0_redirectFor 4 = .ok (.ifCond .ne 30, 3) := by decide +kernel
theorem dX0_redirectFor_7 : decode cX0_redirectFor 7 = .ok (.aload_n 0, 1) := by decide +kernel
theorem dX0_redirectFor_8 : decode cX0_redirectFor 8 = .ok (.getfield 10, 3) := by decide +kernel
theorem dX0_redirectFor_11 : decode cX0_redirectFor 11 = .ok (.invokevirtual 53, 3) := by decide +kernel
theorem dX0_redirectFor_14 : decode cX0_redirectFor 14 = .ok (.iconst 1, 1) := by decide +kernel
theorem dX0_redirectFor_15 : decode cX0_redirectFor 15 = .ok (.if_icmp .ne 17, 3) := by decide +kernel
theorem dX0_redirectFor_18 : decode cX0_redirectFor 18 = .ok (.aload_n 0, 1) := by decide +kernel
theorem dX0_redirectFor_19 : decode cX0_redirectFor 19 = .ok (.getfield 10, 3) := by decide +kernel
theorem dX0_redirectFor_22 : decode cX0_redirectFor 22 = .ok (.iconst 0, 1) := by decide +kernel
theorem dX0_redirectFor_23 : decode cX0_redirectFor 23 = .ok (.invokevirtual 54, 3) := by decide +kernel
theorem dX0_redirectFor_26 : decode cX0_redirectFor 26 = .ok (.checkcast 44, 3) := by decide +kernel
theorem dX0_redirectFor_29 : decode cX0_redirectFor 29 = .ok (.goto 4, 3) := by decide +kernel
theorem dX0_redirectFor_32 : decode cX0_redirectFor 32 = .ok (.aconst_null, 1) := by decide +kernel
theorem dX0_redirectFor_33 : decode cX0_redirectFor 33 = .ok (.areturn, 1) := by decide +kernel
theorem dX0_redirectFor_34 : decode cX0_redirectFor 34 = .ok (.iconst 0, 1) := by decide +kernel
theorem dX0_redirectFor_35 : decode cX0_redirectFor 35 = .ok (.istore_n 2, 1) := by decide +kernel
theorem dX0_redirectFor_36 : decode cX0_redirectFor 36 = .ok (.iload_n 2, 1) := by decide +kernel
theorem dX0_redirectFor_37 : decode cX0_redirectFor 37 = .ok (.aload_n 0, 1) := by decide +kernel
theorem dX0_redirectFor_38 : decode cX0_redirectFor 38 = .ok (.getfield 10, 3) := by decide +kernel
theorem dX0_redirectFor_41 : decode cX0_redirectFor 41 = .ok (.invokevirtual 53, 3) := by decide +kernel
theorem dX0_redirectFor_44 : decode cX0_redirectFor 44 = .ok (.if_icmp .ge 39, 3) := by decide +kernel
theorem dX0_redirectFor_47 : decode cX0_redirectFor 47 = .ok (.aload_n 1, 1) := by decide +kernel
theorem dX0_redirectFor_48 : decode cX0_redirectFor 48 = .ok (.aload_n 0, 1) := by decide +kernel
theorem dX0_redirectFor_49 : decode cX0_redirectFor 49 = .ok (.getfield 10, 3) := by decide +kernel
theorem dX0_redirectFor_52 : decode cX0_redirectFor 52 = .ok (.iload_n 2, 1) := by decide +kernel
theorem dX0_redirectFor_53 : decode cX0_redirectFor 53 = .ok (.invokevirtual 54, 3) := by decide +kernel
theorem dX0_redirectFor_56 : decode cX0_redirectFor 56 = .ok (.checkcast 44, 3) := by decide +kernel
theorem dX0_redirectFor_59 : decode cX0_redirectFor 59 = .ok (.invokevirtual 43, 3) := by decide +kernel
theorem dX0_redirectFor_62 : decode cX0_redirectFor 62 = .ok (.ifCond .eq 15, 3) := by decide +kernel
theorem dX0_redirectFor_65 : decode cX0_redirectFor 65 = .ok (.aload_n 0, 1) := by decide +kernel
theorem dX0_redirectFor_66 : decode cX0_redirectFor 66 = .ok (.getfield 10, 3) := by decide +kernel
theorem dX0_redirectFor_69 : decode cX0_redirectFor 69 = .ok (.iload_n 2, 1) := by decide +kernel
theorem dX0_redirectFor_70 : decode cX0_redirectFor 70 = .ok (.invokevirtual 54, 3) := by decide +kernel
theorem dX0_redirectFor_73 : decode cX0_redirectFor 73 = .ok (.checkcast 44, 3) := by decide +kernel
theorem dX0_redirectFor_76 : decode cX0_redirectFor 76 = .ok (.areturn, 1) := by decide +kernel
theorem dX0_redirectFor_77 : decode cX0_redirectFor 77 = .ok (.iinc 2 1, 3) := by decide +kernel
theorem dX0_redirectFor_80 : decode cX0_redirectFor 80 = .ok (.goto (-44), 3) := by decide +kernel
theorem dX0_redirectFor_83 : decode cX0_redirectFor 83 = .ok (.aconst_null, 1) := by decide +kernel
theorem dX0_redirectFor_84 : decode cX0_redirectFor 84 = .ok (.areturn, 1) := by decide +kernel
theorem dX1_init_0 : decode cX1_init 0 = .ok (.aload_n 0, 1) := by decide +kernel
theorem dX1_init_1 : decode cX1_init 1 = .ok (.invokespecial 1, 3) := by decide +kernel
theorem dX1_init_4 : decode cX1_init 4 = .ok (.aload_n 0, 1) := by decide +kernel
theorem dX1_init_5 : decode cX1_init 5 = .ok (.aconst_null, 1) := by decide +kernel
theorem dX1_init_6 : decode cX1_init 6 = .ok (.putfield 7, 3) := by decide +kernel
theorem dX1_init_9 : decode cX1_init 9 = .ok (.aload_n 0, 1) := by decide +kernel
theorem dX1_init_10 : decode cX1_init 10 = .ok (.aload_n 1, 1) := by decide +kernel
theorem dX1_init_11 : decode cX1_init 11 = .ok (.putfield 13, 3) := by decide +kernel
theorem dX1_init_14 : decode cX1_init 14 = .ok (.aload_n 0, 1) := by decide +kernel
theorem dX1_init_15 : decode cX1_init 15 = .ok (.iload_n 2, 1) := by decide +kernel
theorem dX1_init_16 : decode cX1_init 16 = .ok (.putfield 17, 3) := by decide +kernel
theorem dX1_init_19 : decode cX1_init 19 = .ok (.aload_n 0, 1) := by decide +kernel
theorem dX1_init_20 : decode cX1_init 20 = .ok (.iload_n 3, 1) := by decide +kernel
theorem dX1_init_21 : decode cX1_init 21 = .ok (.putfield 21, 3) := by decide +kernel
theorem dX1_init_24 : decode cX1_init 24 = .ok (.aload_n 0, 1) := by decide +kernel
theorem dX1_init_25 : decode cX1_init 25 = .ok (.iload 4, 2) := by decide +kernel
theorem dX1_init_27 : decode cX1_init 27 = .ok (.putfield 24, 3) := by decide +kernel
theorem dX1_init_30 : decode cX1_init 30 = .ok (.return_, 1) := by decide +kernel
theorem dX1_standing_0 : decode cX1_standing 0 = .ok (.aload_n 0, 1) := by decide +kernel
theorem dX1_standing_1 : decode cX1_standing 1 = .ok (.getfield 7, 3) := by decide +kernel
theorem dX1_standing_4 : decode cX1_standing 4 = .ok (.ifnull 5, 3) := by decide +kernel
theorem dX1_standing_7 : decode cX1_standing 7 = .ok (.iconst 1, 1) := by decide +kernel
theorem dX1_standing_8 : decode cX1_standing 8 = .ok (.ireturn, 1) := by decide +kernel
theorem dX1_standing_9 : decode cX1_standing 9 = .ok (.iload_n 1, 1) := by decide +kernel
theorem dX1_standing_10 : decode cX1_standing 10 = .ok (.aload_n 0, 1) := by decide +kernel
theorem dX1_standing_11 : decode cX1_standing 11 = .ok (.getfield 24, 3) := by decide +kernel
theorem dX1_standing_14 : decode cX1_standing 14 = .ok (.if_icmp .ge 7, 3) := by decide +kernel
theorem dX1_standing_17 : decode cX1_standing 17 = .ok (.iconst 0, 1) := by decide +kernel
theorem dX1_standing_18 : decode cX1_standing 18 = .ok (.goto 4, 3) := by decide +kernel
theorem dX1_standing_21 : decode cX1_standing 21 = .ok (.iconst 2, 1) := by decide +kernel
theorem dX1_standing_22 : decode cX1_standing 22 = .ok (.ireturn, 1) := by decide +kernel
theorem dX2_init_0 : decode cX2_init 0 = .ok (.aload_n 0, 1) := by decide +kernel
theorem dX2_init_1 : decode cX2_init 1 = .ok (.invokespecial 1, 3) := by decide +kernel
theorem dX2_init_4 : decode cX2_init 4 = .ok (.aload_n 0, 1) := by decide +kernel
theorem dX2_init_5 : decode cX2_init 5 = .ok (.iconst 0, 1) := by decide +kernel
theorem dX2_init_6 : decode cX2_init 6 = .ok (.putfield 7, 3) := by decide +kernel
theorem dX2_init_9 : decode cX2_init 9 = .ok (.aload_n 0, 1) := by decide +kernel
theorem dX2_init_10 : decode cX2_init 10 = .ok (.iconst 0, 1) := by decide +kernel
theorem dX2_init_11 : decode cX2_init 11 = .ok (.putfield 13, 3) := by decide +kernel
theorem dX2_init_14 : decode cX2_init 14 = .ok (.aload_n 0, 1) := by decide +kernel
theorem dX2_init_15 : decode cX2_init 15 = .ok (.iload_n 1, 1) := by decide +kernel
theorem dX2_init_16 : decode cX2_init 16 = .ok (.putfield 17, 3) := by decide +kernel
theorem dX2_init_19 : decode cX2_init 19 = .ok (.aload_n 0, 1) := by decide +kernel
theorem dX2_init_20 : decode cX2_init 20 = .ok (.iload_n 2, 1) := by decide +kernel
theorem dX2_init_21 : decode cX2_init 21 = .ok (.putfield 20, 3) := by decide +kernel
theorem dX2_init_24 : decode cX2_init 24 = .ok (.aload_n 0, 1) := by decide +kernel
theorem dX2_init_25 : decode cX2_init 25 = .ok (.iload_n 3, 1) := by decide +kernel
theorem dX2_init_26 : decode cX2_init 26 = .ok (.putfield 23, 3) := by decide +kernel
theorem dX2_init_29 : decode cX2_init 29 = .ok (.aload_n 0, 1) := by decide +kernel
theorem dX2_init_30 : decode cX2_init 30 = .ok (.iload 4, 2) := by decide +kernel
theorem dX2_init_32 : decode cX2_init 32 = .ok (.putfield 26, 3) := by decide +kernel
theorem dX2_init_35 : decode cX2_init 35 = .ok (.return_, 1) := by decide +kernel
theorem dX3_init_0 : decode cX3_init 0 = .ok (.aload_n 0, 1) := by decide +kernel
theorem dX3_init_1 : decode cX3_init 1 = .ok (.invokespecial 1, 3) := by decide +kernel
theorem dX3_init_4 : decode cX3_init 4 = .ok (.aload_n 0, 1) := by decide +kernel
theorem dX3_init_5 : decode cX3_init 5 = .ok (.iconst 0, 1) := by decide +kernel
theorem dX3_init_6 : decode cX3_init 6 = .ok (.putfield 7, 3) := by decide +kernel
theorem dX3_init_9 : decode cX3_init 9 = .ok (.aload_n 0, 1) := by decide +kernel
theorem dX3_init_10 : decode cX3_init 10 = .ok (.aload_n 1, 1) := by decide +kernel
theorem dX3_init_11 : decode cX3_init 11 = .ok (.putfield 13, 3) := by decide +kernel
theorem dX3_init_14 : decode cX3_init 14 = .ok (.aload_n 0, 1) := by decide +kernel
theorem dX3_init_15 : decode cX3_init 15 = .ok (.new 17, 3) := by decide +kernel
theorem dX3_init_18 : decode cX3_init 18 = .ok (.dup, 1) := by decide +kernel
theorem dX3_init_19 : decode cX3_init 19 = .ok (.aload_n 2, 1) := by decide +kernel
theorem dX3_init_20 : decode cX3_init 20 = .ok (.invokespecial 19, 3) := by decide +kernel
theorem dX3_init_23 : decode cX3_init 23 = .ok (.putfield 22, 3) := by decide +kernel
theorem dX3_init_26 : decode cX3_init 26 = .ok (.return_, 1) := by decide +kernel
theorem dX3_isThere_0 : decode cX3_isThere 0 = .ok (.aload_n 0, 1) := by decide +kernel
theorem dX3_isThere_1 : decode cX3_isThere 1 = .ok (.getfield 22, 3) := by decide +kernel
theorem dX3_isThere_4 : decode cX3_isThere 4 = .ok (.invokevirtual 26, 3) := by decide +kernel
theorem dX3_isThere_7 : decode cX3_isThere 7 = .ok (.ifCond .le 7, 3) := by decide +kernel
theorem dX3_isThere_10 : decode cX3_isThere 10 = .ok (.iconst 1, 1) := by decide +kernel
theorem dX3_isThere_11 : decode cX3_isThere 11 = .ok (.goto 4, 3) := by decide +kernel
theorem dX3_isThere_14 : decode cX3_isThere 14 = .ok (.iconst 0, 1) := by decide +kernel
theorem dX3_isThere_15 : decode cX3_isThere 15 = .ok (.ireturn, 1) := by decide +kernel
theorem dX3_copy_0 : decode cX3_copy 0 = .ok (.aload_n 0, 1) := by decide +kernel
theorem dX3_copy_1 : decode cX3_copy 1 = .ok (.getfield 22, 3) := by decide +kernel
theorem dX3_copy_4 : decode cX3_copy 4 = .ok (.iconst 0, 1) := by decide +kernel
theorem dX3_copy_5 : decode cX3_copy 5 = .ok (.aload_n 0, 1) := by decide +kernel
theorem dX3_copy_6 : decode cX3_copy 6 = .ok (.getfield 22, 3) := by decide +kernel
theorem dX3_copy_9 : decode cX3_copy 9 = .ok (.invokevirtual 26, 3) := by decide +kernel
theorem dX3_copy_12 : decode cX3_copy 12 = .ok (.invokevirtual 30, 3) := by decide +kernel
theorem dX3_copy_15 : decode cX3_copy 15 = .ok (.areturn, 1) := by decide +kernel
theorem dX3_forget_0 : decode cX3_forget 0 = .ok (.aload_n 0, 1) := by decide +kernel
theorem dX3_forget_1 : decode cX3_forget 1 = .ok (.iconst 0, 1) := by decide +kernel
theorem dX3_forget_2 : decode cX3_forget 2 = .ok (.putfield 7, 3) := by decide +kernel
theorem dX3_forget_5 : decode cX3_forget 5 = .ok (.aload_n 0, 1) := by decide +kernel
theorem dX3_forget_6 : decode cX3_forget 6 = .ok (.getfield 22, 3) := by decide +kernel
theorem dX3_forget_9 : decode cX3_forget 9 = .ok (.invokevirtual 34, 3) := by decide +kernel
theorem dX3_forget_12 : decode cX3_forget 12 = .ok (.return_, 1) := by decide +kernel
theorem dX4_init_0 : decode cX4_init 0 = .ok (.aload_n 0, 1) := by decide +kernel
theorem dX4_init_1 : decode cX4_init 1 = .ok (.invokespecial 3, 3) := by decide +kernel
theorem dX4_init_4 : decode cX4_init 4 = .ok (.aload_n 0, 1) := by decide +kernel
theorem dX4_init_5 : decode cX4_init 5 = .ok (.new 9, 3) := by decide +kernel
theorem dX4_init_8 : decode cX4_init 8 = .ok (.dup, 1) := by decide +kernel
theorem dX4_init_9 : decode cX4_init 9 = .ok (.sipush 2000, 3) := by decide +kernel
theorem dX4_init_12 : decode cX4_init 12 = .ok (.invokespecial 11, 3) := by decide +kernel
theorem dX4_init_15 : decode cX4_init 15 = .ok (.putfield 14, 3) := by decide +kernel
theorem dX4_init_18 : decode cX4_init 18 = .ok (.aload_n 0, 1) := by decide +kernel
theorem dX4_init_19 : decode cX4_init 19 = .ok (.new 9, 3) := by decide +kernel
theorem dX4_init_22 : decode cX4_init 22 = .ok (.dup, 1) := by decide +kernel
theorem dX4_init_23 : decode cX4_init 23 = .ok (.aload_n 0, 1) := by decide +kernel
theorem dX4_init_24 : decode cX4_init 24 = .ok (.getfield 14, 3) := by decide +kernel
theorem dX4_init_27 : decode cX4_init 27 = .ok (.invokespecial 20, 3) := by decide +kernel
theorem dX4_init_30 : decode cX4_init 30 = .ok (.putfield 23, 3) := by decide +kernel
theorem dX4_init_33 : decode cX4_init 33 = .ok (.aload_n 0, 1) := by decide +kernel
theorem dX4_init_34 : decode cX4_init 34 = .ok (.new 26, 3) := by decide +kernel
theorem dX4_init_37 : decode cX4_init 37 = .ok (.dup, 1) := by decide +kernel
theorem dX4_init_38 : decode cX4_init 38 = .ok (.ldc 28, 2) := by decide +kernel
theorem dX4_init_40 : decode cX4_init 40 = .ok (.aload_n 0, 1) := by decide +kernel
theorem dX4_init_41 : decode cX4_init 41 = .ok (.getfield 14, 3) := by decide +kernel
theorem dX4_init_44 : decode cX4_init 44 = .ok (.invokespecial 30, 3) := by decide +kernel
theorem dX4_init_47 : decode cX4_init 47 = .ok (.putfield 33, 3) := by decide +kernel
theorem dX4_init_50 : decode cX4_init 50 = .ok (.aload_n 0, 1) := by decide +kernel
theorem dX4_init_51 : decode cX4_init 51 = .ok (.new 26, 3) := by decide +kernel
theorem dX4_init_54 : decode cX4_init 54 = .ok (.dup, 1) := by decide +kernel
theorem dX4_init_55 : decode cX4_init 55 = .ok (.ldc 37, 2) := by decide +kernel
theorem dX4_init_57 : decode cX4_init 57 = .ok (.aload_n 0, 1) := by decide +kernel
theorem dX4_init_58 : decode cX4_init 58 = .ok (.getfield 14, 3) := by decide +kernel
theorem dX4_init_61 : decode cX4_init 61 = .ok (.invokespecial 30, 3) := by decide +kernel
theorem dX4_init_64 : decode cX4_init 64 = .ok (.putfield 39, 3) := by decide +kernel
theorem dX4_init_67 : decode cX4_init 67 = .ok (.aload_n 0, 1) := by decide +kernel
theorem dX4_init_68 : decode cX4_init 68 = .ok (.new 26, 3) := by decide +kernel
theorem dX4_init_71 : decode cX4_init 71 = .ok (.dup, 1) := by decide +kernel
theorem dX4_init_72 : decode cX4_init 72 = .ok (.ldc 42, 2) := by decide +kernel
theorem dX4_init_74 : decode cX4_init 74 = .ok (.aload_n 0, 1) := by decide +kernel
theorem dX4_init_75 : decode cX4_init 75 = .ok (.getfield 14, 3) := by decide +kernel
theorem dX4_init_78 : decode cX4_init 78 = .ok (.invokespecial 30, 3) := by decide +kernel
theorem dX4_init_81 : decode cX4_init 81 = .ok (.putfield 44, 3) := by decide +kernel
theorem dX4_init_84 : decode cX4_init 84 = .ok (.aload_n 0, 1) := by decide +kernel
theorem dX4_init_85 : decode cX4_init 85 = .ok (.new 26, 3) := by decide +kernel
theorem dX4_init_88 : decode cX4_init 88 = .ok (.dup, 1) := by decide +kernel
theorem dX4_init_89 : decode cX4_init 89 = .ok (.ldc 47, 2) := by decide +kernel
theorem dX4_init_91 : decode cX4_init 91 = .ok (.aload_n 0, 1) := by decide +kernel
theorem dX4_init_92 : decode cX4_init 92 = .ok (.getfield 14, 3) := by decide +kernel
theorem dX4_init_95 : decode cX4_init 95 = .ok (.invokespecial 30, 3) := by decide +kernel
theorem dX4_init_98 : decode cX4_init 98 = .ok (.putfield 49, 3) := by decide +kernel
theorem dX4_init_101 : decode cX4_init 101 = .ok (.aload_n 0, 1) := by decide +kernel
theorem dX4_init_102 : decode cX4_init 102 = .ok (.new 26, 3) := by decide +kernel
theorem dX4_init_105 : decode cX4_init 105 = .ok (.dup, 1) := by decide +kernel
theorem dX4_init_106 : decode cX4_init 106 = .ok (.ldc 51, 2) := by decide +kernel
theorem dX4_init_108 : decode cX4_init 108 = .ok (.aload_n 0, 1) := by decide +kernel
theorem dX4_init_109 : decode cX4_init 109 = .ok (.getfield 14, 3) := by decide +kernel
theorem dX4_init_112 : decode cX4_init 112 = .ok (.invokespecial 30, 3) := by decide +kernel
theorem dX4_init_115 : decode cX4_init 115 = .ok (.putfield 53, 3) := by decide +kernel
theorem dX4_init_118 : decode cX4_init 118 = .ok (.aload_n 0, 1) := by decide +kernel
theorem dX4_init_119 : decode cX4_init 119 = .ok (.new 26, 3) := by decide +kernel
theorem dX4_init_122 : decode cX4_init 122 = .ok (.dup, 1) := by decide +kernel
theorem dX4_init_123 : decode cX4_init 123 = .ok (.ldc 55, 2) := by decide +kernel
theorem dX4_init_125 : decode cX4_init 125 = .ok (.aload_n 0, 1) := by decide +kernel
theorem dX4_init_126 : decode cX4_init 126 = .ok (.getfield 14, 3) := by decide +kernel
theorem dX4_init_129 : decode cX4_init 129 = .ok (.invokespecial 30, 3) := by decide +kernel
theorem dX4_init_132 : decode cX4_init 132 = .ok (.putfield 57, 3) := by decide +kernel
theorem dX4_init_135 : decode cX4_init 135 = .ok (.aload_n 0, 1) := by decide +kernel
theorem dX4_init_136 : decode cX4_init 136 = .ok (.new 26, 3) := by decide +kernel
theorem dX4_init_139 : decode cX4_init 139 = .ok (.dup, 1) := by decide +kernel
theorem dX4_init_140 : decode cX4_init 140 = .ok (.ldc 60, 2) := by decide +kernel
theorem dX4_init_142 : decode cX4_init 142 = .ok (.aload_n 0, 1) := by decide +kernel
theorem dX4_init_143 : decode cX4_init 143 = .ok (.getfield 14, 3) := by decide +kernel
theorem dX4_init_146 : decode cX4_init 146 = .ok (.invokespecial 30, 3) := by decide +kernel
theorem dX4_init_149 : decode cX4_init 149 = .ok (.putfield 62, 3) := by decide +kernel
theorem dX4_init_152 : decode cX4_init 152 = .ok (.aload_n 0, 1) := by decide +kernel
theorem dX4_init_153 : decode cX4_init 153 = .ok (.new 26, 3) := by decide +kernel
theorem dX4_init_156 : decode cX4_init 156 = .ok (.dup, 1) := by decide +kernel
theorem dX4_init_157 : decode cX4_init 157 = .ok (.ldc 65, 2) := by decide +kernel
theorem dX4_init_159 : decode cX4_init 159 = .ok (.aload_n 0, 1) := by decide +kernel
theorem dX4_init_160 : decode cX4_init 160 = .ok (.getfield 14, 3) := by decide +kernel
theorem dX4_init_163 : decode cX4_init 163 = .ok (.invokespecial 30, 3) := by decide +kernel
theorem dX4_init_166 : decode cX4_init 166 = .ok (.putfield 67, 3) := by decide +kernel
theorem dX4_init_169 : decode cX4_init 169 = .ok (.aload_n 0, 1) := by decide +kernel
theorem dX4_init_170 : decode cX4_init 170 = .ok (.new 26, 3) := by decide +kernel
theorem dX4_init_173 : decode cX4_init 173 = .ok (.dup, 1) := by decide +kernel
theorem dX4_init_174 : decode cX4_init 174 = .ok (.ldc 70, 2) := by decide +kernel
theorem dX4_init_176 : decode cX4_init 176 = .ok (.aload_n 0, 1) := by decide +kernel
theorem dX4_init_177 : decode cX4_init 177 = .ok (.getfield 14, 3) := by decide +kernel
theorem dX4_init_180 : decode cX4_init 180 = .ok (.invokespecial 30, 3) := by decide +kernel
theorem dX4_init_183 : decode cX4_init 183 = .ok (.putfield 72, 3) := by decide +kernel
theorem dX4_init_186 : decode cX4_init 186 = .ok (.aload_n 0, 1) := by decide +kernel
theorem dX4_init_187 : decode cX4_init 187 = .ok (.new 26, 3) := by decide +kernel
theorem dX4_init_190 : decode cX4_init 190 = .ok (.dup, 1) := by decide +kernel
theorem dX4_init_191 : decode cX4_init 191 = .ok (.ldc 74, 2) := by decide +kernel
theorem dX4_init_193 : decode cX4_init 193 = .ok (.aload_n 0, 1) := by decide +kernel
theorem dX4_init_194 : decode cX4_init 194 = .ok (.getfield 14, 3) := by decide +kernel
theorem dX4_init_197 : decode cX4_init 197 = .ok (.invokespecial 30, 3) := by decide +kernel
theorem dX4_init_200 : decode cX4_init 200 = .ok (.putfield 76, 3) := by decide +kernel
theorem dX4_init_203 : decode cX4_init 203 = .ok (.aload_n 0, 1) := by decide +kernel
theorem dX4_init_204 : decode cX4_init 204 = .ok (.new 26, 3) := by decide +kernel
theorem dX4_init_207 : decode cX4_init 207 = .ok (.dup, 1) := by decide +kernel
theorem dX4_init_208 : decode cX4_init 208 = .ok (.ldc 79, 2) := by decide +kernel
theorem dX4_init_210 : decode cX4_init 210 = .ok (.aload_n 0, 1) := by decide +kernel
theorem dX4_init_211 : decode cX4_init 211 = .ok (.getfield 14, 3) := by decide +kernel
theorem dX4_init_214 : decode cX4_init 214 = .ok (.invokespecial 30, 3) := by decide +kernel
theorem dX4_init_217 : decode cX4_init 217 = .ok (.putfield 81, 3) := by decide +kernel
theorem dX4_init_220 : decode cX4_init 220 = .ok (.aload_n 0, 1) := by decide +kernel
theorem dX4_init_221 : decode cX4_init 221 = .ok (.new 26, 3) := by decide +kernel
theorem dX4_init_224 : decode cX4_init 224 = .ok (.dup, 1) := by decide +kernel
theorem dX4_init_225 : decode cX4_init 225 = .ok (.ldc 84, 2) := by decide +kernel
theorem dX4_init_227 : decode cX4_init 227 = .ok (.aload_n 0, 1) := by decide +kernel
theorem dX4_init_228 : decode cX4_init 228 = .ok (.getfield 14, 3) := by decide +kernel
theorem dX4_init_231 : decode cX4_init 231 = .ok (.invokespecial 30, 3) := by decide +kernel
theorem dX4_init_234 : decode cX4_init 234 = .ok (.putfield 86, 3) := by decide +kernel
theorem dX4_init_237 : decode cX4_init 237 = .ok (.aload_n 0, 1) := by decide +kernel
theorem dX4_init_238 : decode cX4_init 238 = .ok (.new 26, 3) := by decide +kernel
theorem dX4_init_241 : decode cX4_init 241 = .ok (.dup, 1) := by decide +kernel
theorem dX4_init_242 : decode cX4_init 242 = .ok (.ldc 89, 2) := by decide +kernel
theorem dX4_init_244 : decode cX4_init 244 = .ok (.aload_n 0, 1) := by decide +kernel
theorem dX4_init_245 : decode cX4_init 245 = .ok (.getfield 14, 3) := by decide +kernel
theorem dX4_init_248 : decode cX4_init 248 = .ok (.invokespecial 30, 3) := by decide +kernel
theorem dX4_init_251 : decode cX4_init 251 = .ok (.putfield 91, 3) := by decide +kernel
theorem dX4_init_254 : decode cX4_init 254 = .ok (.aload_n 0, 1) := by decide +kernel
theorem dX4_init_255 : decode cX4_init 255 = .ok (.new 93, 3) := by decide +kernel
theorem dX4_init_258 : decode cX4_init 258 = .ok (.dup, 1) := by decide +kernel
theorem dX4_init_259 : decode cX4_init 259 = .ok (.invokespecial 95, 3) := by decide +kernel
theorem dX4_init_262 : decode cX4_init 262 = .ok (.putfield 96, 3) := by decide +kernel
theorem dX4_init_265 : decode cX4_init 265 = .ok (.aload_n 0, 1) := by decide +kernel
theorem dX4_init_266 : decode cX4_init 266 = .ok (.getfield 96, 3) := by decide +kernel
theorem dX4_init_269 : decode cX4_init 269 = .ok (.aload_n 0, 1) := by decide +kernel
theorem dX4_init_270 : decode cX4_init 270 = .ok (.getfield 33, 3) := by decide +kernel
theorem dX4_init_273 : decode cX4_init 273 = .ok (.invokevirtual 100, 3) := by decide +kernel
theorem dX4_init_276 : decode cX4_init 276 = .ok (.pop, 1) := by decide +kernel
theorem dX4_init_277 : decode cX4_init 277 = .ok (.aload_n 0, 1) := by decide +kernel
theorem dX4_init_278 : decode cX4_init 278 = .ok (.getfield 96, 3) := by decide +kernel
theorem dX4_init_281 : decode cX4_init 281 = .ok (.aload_n 0, 1) := by decide +kernel
theorem dX4_init_282 : decode cX4_init 282 = .ok (.getfield 39, 3) := by decide +kernel
theorem dX4_init_285 : decode cX4_init 285 = .ok (.invokevirtual 100, 3) := by decide +kernel
theorem dX4_init_288 : decode cX4_init 288 = .ok (.pop, 1) := by decide +kernel
theorem dX4_init_289 : decode cX4_init 289 = .ok (.aload_n 0, 1) := by decide +kernel
theorem dX4_init_290 : decode cX4_init 290 = .ok (.getfield 96, 3) := by decide +kernel
theorem dX4_init_293 : decode cX4_init 293 = .ok (.aload_n 0, 1) := by decide +kernel
theorem dX4_init_294 : decode cX4_init 294 = .ok (.getfield 44, 3) := by decide +kernel
theorem dX4_init_297 : decode cX4_init 297 = .ok (.invokevirtual 100, 3) := by decide +kernel
theorem dX4_init_300 : decode cX4_init 300 = .ok (.pop, 1) := by decide +kernel
theorem dX4_init_301 : decode cX4_init 301 = .ok (.aload_n 0, 1) := by decide +kernel
theorem dX4_init_302 : decode cX4_init 302 = .ok (.getfield 96, 3) := by decide +kernel
theorem dX4_init_305 : decode cX4_init 305 = .ok (.aload_n 0, 1) := by decide +kernel
theorem dX4_init_306 : decode cX4_init 306 = .ok (.getfield 49, 3) := by decide +kernel
theorem dX4_init_309 : decode cX4_init 309 = .ok (.invokevirtual 100, 3) := by decide +kernel
theorem dX4_init_312 : decode cX4_init 312 = .ok (.pop, 1) := by decide +kernel
theorem dX4_init_313 : decode cX4_init 313 = .ok (.aload_n 0, 1) := by decide +kernel
theorem dX4_init_314 : decode cX4_init 314 = .ok (.getfield 96, 3) := by decide +kernel
theorem dX4_init_317 : decode cX4_init 317 = .ok (.aload_n 0, 1) := by decide +kernel
theorem dX4_init_318 : decode cX4_init 318 = .ok (.getfield 53, 3) := by decide +kernel
theorem dX4_init_321 : decode cX4_init 321 = .ok (.invokevirtual 100, 3) := by decide +kernel
theorem dX4_init_324 : decode cX4_init 324 = .ok (.pop, 1) := by decide +kernel
theorem dX4_init_325 : decode cX4_init 325 = .ok (.aload_n 0, 1) := by decide +kernel
theorem dX4_init_326 : decode cX4_init 326 = .ok (.getfield 96, 3) := by decide +kernel
theorem dX4_init_329 : decode cX4_init 329 = .ok (.aload_n 0, 1) := by decide +kernel
theorem dX4_init_330 : decode cX4_init 330 = .ok (.getfield 57, 3) := by decide +kernel
theorem dX4_init_333 : decode cX4_init 333 = .ok (.invokevirtual 100, 3) := by decide +kernel
theorem dX4_init_336 : decode cX4_init 336 = .ok (.pop, 1) := by decide +kernel
theorem dX4_init_337 : decode cX4_init 337 = .ok (.aload_n 0, 1) := by decide +kernel
theorem dX4_init_338 : decode cX4_init 338 = .ok (.getfield 96, 3) := by decide +kernel
theorem dX4_init_341 : decode cX4_init 341 = .ok (.aload_n 0, 1) := by decide +kernel
theorem dX4_init_342 : decode cX4_init 342 = .ok (.getfield 62, 3) := by decide +kernel
theorem dX4_init_345 : decode cX4_init 345 = .ok (.invokevirtual 100, 3) := by decide +kernel
theorem dX4_init_348 : decode cX4_init 348 = .ok (.pop, 1) := by decide +kernel
theorem dX4_init_349 : decode cX4_init 349 = .ok (.aload_n 0, 1) := by decide +kernel
theorem dX4_init_350 : decode cX4_init 350 = .ok (.getfield 96, 3) := by decide +kernel
theorem dX4_init_353 : decode cX4_init 353 = .ok (.aload_n 0, 1) := by decide +kernel
theorem dX4_init_354 : decode cX4_init 354 = .ok (.getfield 67, 3) := by decide +kernel
theorem dX4_init_357 : decode cX4_init 357 = .ok (.invokevirtual 100, 3) := by decide +kernel
theorem dX4_init_360 : decode cX4_init 360 = .ok (.pop, 1) := by decide +kernel
theorem dX4_init_361 : decode cX4_init 361 = .ok (.aload_n 0, 1) := by decide +kernel
theorem dX4_init_362 : decode cX4_init 362 = .ok (.getfield 96, 3) := by decide +kernel
theorem dX4_init_365 : decode cX4_init 365 = .ok (.aload_n 0, 1) := by decide +kernel
theorem dX4_init_366 : decode cX4_init 366 = .ok (.getfield 72, 3) := by decide +kernel
theorem dX4_init_369 : decode cX4_init 369 = .ok (.invokevirtual 100, 3) := by decide +kernel
theorem dX4_init_372 : decode cX4_init 372 = .ok (.pop, 1) := by decide +kernel
theorem dX4_init_373 : decode cX4_init 373 = .ok (.aload_n 0, 1) := by decide +kernel
theorem dX4_init_374 : decode cX4_init 374 = .ok (.getfield 96, 3) := by decide +kernel
theorem dX4_init_377 : decode cX4_init 377 = .ok (.aload_n 0, 1) := by decide +kernel
theorem dX4_init_378 : decode cX4_init 378 = .ok (.getfield 76, 3) := by decide +kernel
theorem dX4_init_381 : decode cX4_init 381 = .ok (.invokevirtual 100, 3) := by decide +kernel
theorem dX4_init_384 : decode cX4_init 384 = .ok (.pop, 1) := by decide +kernel
theorem dX4_init_385 : decode cX4_init 385 = .ok (.aload_n 0, 1) := by decide +kernel
theorem dX4_init_386 : decode cX4_init 386 = .ok (.getfield 96, 3) := by decide +kernel
theorem dX4_init_389 : decode cX4_init 389 = .ok (.aload_n 0, 1) := by decide +kernel
theorem dX4_init_390 : decode cX4_init 390 = .ok (.getfield 81, 3) := by decide +kernel
theorem dX4_init_393 : decode cX4_init 393 = .ok (.invokevirtual 100, 3) := by decide +kernel
theorem dX4_init_396 : decode cX4_init 396 = .ok (.pop, 1) := by decide +kernel
theorem dX4_init_397 : decode cX4_init 397 = .ok (.aload_n 0, 1) := by decide +kernel
theorem dX4_init_398 : decode cX4_init 398 = .ok (.getfield 96, 3) := by decide +kernel
theorem dX4_init_401 : decode cX4_init 401 = .ok (.aload_n 0, 1) := by decide +kernel
theorem dX4_init_402 : decode cX4_init 402 = .ok (.getfield 86, 3) := by decide +kernel
theorem dX4_init_405 : decode cX4_init 405 = .ok (.invokevirtual 100, 3) := by decide +kernel
theorem dX4_init_408 : decode cX4_init 408 = .ok (.pop, 1) := by decide +kernel
theorem dX4_init_409 : decode cX4_init 409 = .ok (.aload_n 0, 1) := by decide +kernel
theorem dX4_init_410 : decode cX4_init 410 = .ok (.getfield 96, 3) := by decide +kernel
theorem dX4_init_413 : decode cX4_init 413 = .ok (.aload_n 0, 1) := by decide +kernel
theorem dX4_init_414 : decode cX4_init 414 = .ok (.getfield 91, 3) := by decide +kernel
theorem dX4_init_417 : decode cX4_init 417 = .ok (.invokevirtual 100, 3) := by decide +kernel
theorem dX4_init_420 : decode cX4_init 420 = .ok (.pop, 1) := by decide +kernel
theorem dX4_init_421 : decode cX4_init 421 = .ok (.return_, 1) := by decide +kernel
theorem dX4_read_0 : decode cX4_read 0 = .ok (.aload_n 0, 1) := by decide +kernel
theorem dX4_read_1 : decode cX4_read 1 = .ok (.invokevirtual 104, 3) := by decide +kernel
theorem dX4_read_4 : decode cX4_read 4 = .ok (.iconst 0, 1) := by decide +kernel
theorem dX4_read_5 : decode cX4_read 5 = .ok (.istore_n 2, 1) := by decide +kernel
theorem dX4_read_6 : decode cX4_read 6 = .ok (.iconst 0, 1) := by decide +kernel
theorem dX4_read_7 : decode cX4_read 7 = .ok (.istore_n 3, 1) := by decide +kernel
theorem dX4_read_8 : decode cX4_read 8 = .ok (.iconst 0, 1) := by decide +kernel
theorem dX4_read_9 : decode cX4_read 9 = .ok (.istore 4, 2) := by decide +kernel
theorem dX4_read_11 : decode cX4_read 11 = .ok (.iload 4, 2) := by decide +kernel
theorem dX4_read_13 : decode cX4_read 13 = .ok (.aload_n 1, 1) := by decide +kernel
theorem dX4_read_14 : decode cX4_read 14 = .ok (.invokevirtual 107, 3) := by decide +kernel
theorem dX4_read_17 : decode cX4_read 17 = .ok (.if_icmp .gt 65, 3) := by decide +kernel
theorem dX4_read_20 : decode cX4_read 20 = .ok (.iload 4, 2) := by decide +kernel
theorem dX4_read_22 : decode cX4_read 22 = .ok (.aload_n 1, 1) := by decide +kernel
theorem dX4_read_23 : decode cX4_read 23 = .ok (.invokevirtual 107, 3) := by decide +kernel
theorem dX4_read_26 : decode cX4_read 26 = .ok (.if_icmp .ge 17, 3) := by decide +kernel
theorem dX4_read_29 : decode cX4_read 29 = .ok (.aload_n 1, 1) := by decide +kernel
theorem dX4_read_30 : decode cX4_read 30 = .ok (.iload 4, 2) := by decide +kernel
theorem dX4_read_32 : decode cX4_read 32 = .ok (.invokevirtual 111, 3) := by decide +kernel
theorem dX4_read_35 : decode cX4_read 35 = .ok (.bipush 38, 2) := by decide +kernel
theorem dX4_read_37 : decode cX4_read 37 = .ok (.if_icmp .eq 6, 3) := by decide +kernel
theorem dX4_read_40 : decode cX4_read 40 = .ok (.goto 36, 3) := by decide +kernel
theorem dX4_read_43 : decode cX4_read 43 = .ok (.iload 4, 2) := by decide +kernel
theorem dX4_read_45 : decode cX4_read 45 = .ok (.iload_n 3, 1) := by decide +kernel
theorem dX4_read_46 : decode cX4_read 46 = .ok (.if_icmp .le 25, 3) := by decide +kernel
theorem dX4_read_49 : decode cX4_read 49 = .ok (.iinc 2 1, 3) := by decide +kernel
theorem dX4_read_52 : decode cX4_read 52 = .ok (.iload_n 2, 1) := by decide +kernel
theorem dX4_read_53 : decode cX4_read 53 = .ok (.bipush 20, 2) := by decide +kernel
theorem dX4_read_55 : decode cX4_read 55 = .ok (.if_icmp .gt 14, 3) := by decide +kernel
theorem dX4_read_58 : decode cX4_read 58 = .ok (.aload_n 0, 1) := by decide +kernel
theorem dX4_read_59 : decode cX4_read 59 = .ok (.aload_n 1, 1) := by decide +kernel
theorem dX4_read_60 : decode cX4_read 60 = .ok (.iload_n 3, 1) := by decide +kernel
theorem dX4_read_61 : decode cX4_read 61 = .ok (.iload 4, 2) := by decide +kernel
theorem dX4_read_63 : decode cX4_read 63 = .ok (.invokevirtual 115, 3) := by decide +kernel
theorem dX4_read_66 : decode cX4_read 66 = .ok (.ifCond .ne 5, 3) := by decide +kernel
theorem dX4_read_69 : decode cX4_read 69 = .ok (.iconst 0, 1) := by decide +kernel
theorem dX4_read_70 : decode cX4_read 70 = .ok (.ireturn, 1) := by decide +kernel
theorem dX4_read_71 : decode cX4_read 71 = .ok (.iload 4, 2) := by decide +kernel
theorem dX4_read_73 : decode cX4_read 73 = .ok (.iconst 1, 1) := by decide +kernel
theorem dX4_read_74 : decode cX4_read 74 = .ok (.iadd, 1) := by decide +kernel
theorem dX4_read_75 : decode cX4_read 75 = .ok (.istore_n 3, 1) := by decide +kernel
theorem dX4_read_76 : decode cX4_read 76 = .ok (.iinc 4 1, 3) := by decide +kernel
theorem dX4_read_79 : decode cX4_read 79 = .ok (.goto (-68), 3) := by decide +kernel
theorem dX4_read_82 : decode cX4_read 82 = .ok (.iconst 1, 1) := by decide +kernel
theorem dX4_read_83 : decode cX4_read 83 = .ok (.ireturn, 1) := by decide +kernel
theorem dX4_forget_0 : decode cX4_forget 0 = .ok (.aload_n 0, 1) := by decide +kernel
theorem dX4_forget_1 : decode cX4_forget 1 = .ok (.getfield 14, 3) := by decide +kernel
theorem dX4_forget_4 : decode cX4_forget 4 = .ok (.invokevirtual 119, 3) := by decide +kernel
theorem dX4_forget_7 : decode cX4_forget 7 = .ok (.iconst 0, 1) := by decide +kernel
theorem dX4_forget_8 : decode cX4_forget 8 = .ok (.istore_n 1, 1) := by decide +kernel
theorem dX4_forget_9 : decode cX4_forget 9 = .ok (.iload_n 1, 1) := by decide +kernel
theorem dX4_forget_10 : decode cX4_forget 10 = .ok (.aload_n 0, 1) := by decide +kernel
theorem dX4_forget_11 : decode cX4_forget 11 = .ok (.getfield 96, 3) := by decide +kernel
theorem dX4_forget_14 : decode cX4_forget 14 = .ok (.invokevirtual 122, 3) := by decide +kernel
theorem dX4_forget_17 : decode cX4_forget 17 = .ok (.if_icmp .ge 23, 3) := by decide +kernel
theorem dX4_forget_20 : decode cX4_forget 20 = .ok (.aload_n 0, 1) := by decide +kernel
theorem dX4_forget_21 : decode cX4_forget 21 = .ok (.getfield 96, 3) := by decide +kernel
theorem dX4_forget_24 : decode cX4_forget 24 = .ok (.iload_n 1, 1) := by decide +kernel
theorem dX4_forget_25 : decode cX4_forget 25 = .ok (.invokevirtual 123, 3) := by decide +kernel
theorem dX4_forget_28 : decode cX4_forget 28 = .ok (.checkcast 26, 3) := by decide +kernel
theorem dX4_forget_31 : decode cX4_forget 31 = .ok (.invokevirtual 127, 3) := by decide +kernel
theorem dX4_forget_34 : decode cX4_forget 34 = .ok (.iinc 1 1, 3) := by decide +kernel
theorem dX4_forget_37 : decode cX4_forget 37 = .ok (.goto (-28), 3) := by decide +kernel
theorem dX4_forget_40 : decode cX4_forget 40 = .ok (.return_, 1) := by decide +kernel
theorem dX4_readPiece_0 : decode cX4_readPiece 0 = .ok (.aload_n 1, 1) := by decide +kernel
theorem dX4_readPiece_1 : decode cX4_readPiece 1 = .ok (.bipush 61, 2) := by decide +kernel
theorem dX4_readPiece_3 : decode cX4_readPiece 3 = .ok (.iload_n 2, 1) := by decide +kernel
theorem dX4_readPiece_4 : decode cX4_readPiece 4 = .ok (.iload_n 3, 1) := by decide +kernel
theorem dX4_readPiece_5 : decode cX4_readPiece 5 = .ok (.invokevirtual 128, 3) := by decide +kernel
theorem dX4_readPiece_8 : decode cX4_readPiece 8 = .ok (.istore 4, 2) := by decide +kernel
theorem dX4_readPiece_10 : decode cX4_readPiece 10 = .ok (.aload_n 0, 1) := by decide +kernel
theorem dX4_readPiece_11 : decode cX4_readPiece 11 = .ok (.getfield 14, 3) := by decide +kernel
theorem dX4_readPiece_14 : decode cX4_readPiece 14 = .ok (.invokevirtual 107, 3) := by decide +kernel
theorem dX4_readPiece_17 : decode cX4_readPiece 17 = .ok (.istore 5, 2) := by decide +kernel
theorem dX4_readPiece_19 : decode cX4_readPiece 19 = .ok (.aload_n 0, 1) := by decide +kernel
theorem dX4_readPiece_20 : decode cX4_readPiece 20 = .ok (.aload_n 1, 1) := by decide +kernel
theorem dX4_readPiece_21 : decode cX4_readPiece 21 = .ok (.iload_n 2, 1) := by decide +kernel
theorem dX4_readPiece_22 : decode cX4_readPiece 22 = .ok (.iload 4, 2) := by decide +kernel
theorem dX4_readPiece_24 : decode cX4_readPiece 24 = .ok (.invokevirtual 132, 3) := by decide +kernel
theorem dX4_readPiece_27 : decode cX4_readPiece 27 = .ok (.ifCond .ne 5, 3) := by decide +kernel
theorem dX4_readPiece_30 : decode cX4_readPiece 30 = .ok (.iconst 0, 1) := by decide +kernel
theorem dX4_readPiece_31 : decode cX4_readPiece 31 = .ok (.ireturn, 1) := by decide +kernel
theorem dX4_readPiece_32 : decode cX4_readPiece 32 = .ok (.aload_n 0, 1) := by decide +kernel
theorem dX4_readPiece_33 : decode cX4_readPiece 33 = .ok (.getfield 23, 3) := by decide +kernel
theorem dX4_readPiece_36 : decode cX4_readPiece 36 = .ok (.aload_n 0, 1) := by decide +kernel
theorem dX4_readPiece_37 : decode cX4_readPiece 37 = .ok (.getfield 14, 3) := by decide +kernel
theorem dX4_readPiece_40 : decode cX4_readPiece 40 = .ok (.iload 5, 2) := by decide +kernel
theorem dX4_readPiece_42 : decode cX4_readPiece 42 = .ok (.invokevirtual 135, 3) := by decide +kernel
theorem dX4_readPiece_45 : decode cX4_readPiece 45 = .ok (.aload_n 0, 1) := by decide +kernel
theorem dX4_readPiece_46 : decode cX4_readPiece 46 = .ok (.getfield 14, 3) := by decide +kernel
theorem dX4_readPiece_49 : decode cX4_readPiece 49 = .ok (.invokevirtual 107, 3) := by decide +kernel
theorem dX4_readPiece_52 : decode cX4_readPiece 52 = .ok (.istore 6, 2) := by decide +kernel
theorem dX4_readPiece_54 : decode cX4_readPiece 54 = .ok (.aload_n 0, 1) := by decide +kernel
theorem dX4_readPiece_55 : decode cX4_readPiece 55 = .ok (.aload_n 1, 1) := by decide +kernel
theorem dX4_readPiece_56 : decode cX4_readPiece 56 = .ok (.iload 4, 2) := by decide +kernel
theorem dX4_readPiece_58 : decode cX4_readPiece 58 = .ok (.iconst 1, 1) := by decide +kernel
theorem dX4_readPiece_59 : decode cX4_readPiece 59 = .ok (.iadd, 1) := by decide +kernel
theorem dX4_readPiece_60 : decode cX4_readPiece 60 = .ok (.iload_n 3, 1) := by decide +kernel
theorem dX4_readPiece_61 : decode cX4_readPiece 61 = .ok (.invokevirtual 132, 3) := by decide +kernel
theorem dX4_readPiece_64 : decode cX4_readPiece 64 = .ok (.ifCond .ne 5, 3) := by decide +kernel
theorem dX4_readPiece_67 : decode cX4_readPiece 67 = .ok (.iconst 0, 1) := by decide +kernel
theorem dX4_readPiece_68 : decode cX4_readPiece 68 = .ok (.ireturn, 1) := by decide +kernel
theorem dX4_readPiece_69 : decode cX4_readPiece 69 = .ok (.aload_n 0, 1) := by decide +kernel
theorem dX4_readPiece_70 : decode cX4_readPiece 70 = .ok (.aload_n 0, 1) := by decide +kernel
theorem dX4_readPiece_71 : decode cX4_readPiece 71 = .ok (.getfield 23, 3) := by decide +kernel
theorem dX4_readPiece_74 : decode cX4_readPiece 74 = .ok (.invokevirtual 139, 3) := by decide +kernel
theorem dX4_readPiece_77 : decode cX4_readPiece 77 = .ok (.astore 7, 2) := by decide +kernel
theorem dX4_readPiece_79 : decode cX4_readPiece 79 = .ok (.aload 7, 2) := by decide +kernel
theorem dX4_readPiece_81 : decode cX4_readPiece 81 = .ok (.ifnonnull 5, 3) := by decide +kernel
theorem dX4_readPiece_84 : decode cX4_readPiece 84 = .ok (.iconst 1, 1) := by decide +kernel
theorem dX4_readPiece_85 : decode cX4_readPiece 85 = .ok (.ireturn, 1) := by decide +kernel
theorem dX4_readPiece_86 : decode cX4_readPiece 86 = .ok (.aload 7, 2) := by decide +kernel
theorem dX4_readPiece_88 : decode cX4_readPiece 88 = .ok (.getfield 143, 3) := by decide +kernel
theorem dX4_readPiece_91 : decode cX4_readPiece 91 = .ok (.ifCond .eq 5, 3) := by decide +kernel
theorem dX4_readPiece_94 : decode cX4_readPiece 94 = .ok (.iconst 0, 1) := by decide +kernel
theorem dX4_readPiece_95 : decode cX4_readPiece 95 = .ok (.ireturn, 1) := by decide +kernel
theorem dX4_readPiece_96 : decode cX4_readPiece 96 = .ok (.aload 7, 2) := by decide +kernel
theorem dX4_readPiece_98 : decode cX4_readPiece 98 = .ok (.iconst 1, 1) := by decide +kernel
theorem dX4_readPiece_99 : decode cX4_readPiece 99 = .ok (.putfield 143, 3) := by decide +kernel
theorem dX4_readPiece_102 : decode cX4_readPiece 102 = .ok (.aload 7, 2) := by decide +kernel
theorem dX4_readPiece_104 : decode cX4_readPiece 104 = .ok (.getfield 147, 3) := by decide +kernel
theorem dX4_readPiece_107 : decode cX4_readPiece 107 = .ok (.aload_n 0, 1) := by decide +kernel
theorem dX4_readPiece_108 : decode cX4_readPiece 108 = .ok (.getfield 14, 3) := by decide +kernel
theorem dX4_readPiece_111 : decode cX4_readPiece 111 = .ok (.iload 6, 2) := by decide +kernel
theorem dX4_readPiece_113 : decode cX4_readPiece 113 = .ok (.invokevirtual 135, 3) := by decide +kernel
theorem dX4_readPiece_116 : decode cX4_readPiece 116 = .ok (.iconst 1, 1) := by decide +kernel
theorem dX4_readPiece_117 : decode cX4_readPiece 117 = .ok (.ireturn, 1) := by decide +kernel
theorem dX4_decode_0 : decode cX4_decode 0 = .ok (.iload_n 2, 1) := by decide +kernel
theorem dX4_decode_1 : decode cX4_decode 1 = .ok (.istore 4, 2) := by decide +kernel
theorem dX4_decode_3 : decode cX4_decode 3 = .ok (.iload 4, 2) := by decide +kernel
theorem dX4_decode_5 : decode cX4_decode 5 = .ok (.iload_n 3, 1) := by decide +kernel
theorem dX4_decode_6 : decode cX4_decode 6 = .ok (.if_icmp .ge 119, 3) := by decide +kernel
theorem dX4_decode_9 : decode cX4_decode 9 = .ok (.aload_n 1, 1) := by decide +kernel
theorem dX4_decode_10 : decode cX4_decode 10 = .ok (.iload 4, 2) := by decide +kernel
theorem dX4_decode_12 : decode cX4_decode 12 = .ok (.invokevirtual 111, 3) := by decide +kernel
theorem dX4_decode_15 : decode cX4_decode 15 = .ok (.istore 5, 2) := by decide +kernel
theorem dX4_decode_17 : decode cX4_decode 17 = .ok (.iload 5, 2) := by decide +kernel
theorem dX4_decode_19 : decode cX4_decode 19 = .ok (.bipush 37, 2) := by decide +kernel
theorem dX4_decode_21 : decode cX4_decode 21 = .ok (.if_icmp .ne 64, 3) := by decide +kernel
theorem dX4_decode_24 : decode cX4_decode 24 = .ok (.aload_n 1, 1) := by decide +kernel
theorem dX4_decode_25 : decode cX4_decode 25 = .ok (.iload 4, 2) := by decide +kernel
theorem dX4_decode_27 : decode cX4_decode 27 = .ok (.iconst 1, 1) := by decide +kernel
theorem dX4_decode_28 : decode cX4_decode 28 = .ok (.iadd, 1) := by decide +kernel
theorem dX4_decode_29 : decode cX4_decode 29 = .ok (.invokevirtual 111, 3) := by decide +kernel
theorem dX4_decode_32 : decode cX4_decode 32 = .ok (.invokestatic 150, 3) := by decide +kernel
theorem dX4_decode_35 : decode cX4_decode 35 = .ok (.istore 6, 2) := by decide +kernel
theorem dX4_decode_37 : decode cX4_decode 37 = .ok (.aload_n 1, 1) := by decide +kernel
theorem dX4_decode_38 : decode cX4_decode 38 = .ok (.iload 4, 2) := by decide +kernel
theorem dX4_decode_40 : decode cX4_decode 40 = .ok (.iconst 2, 1) := by decide +kernel
theorem dX4_decode_41 : decode cX4_decode 41 = .ok (.iadd, 1) := by decide +kernel
theorem dX4_decode_42 : decode cX4_decode 42 = .ok (.invokevirtual 111, 3) := by decide +kernel
theorem dX4_decode_45 : decode cX4_decode 45 = .ok (.invokestatic 150, 3) := by decide +kernel
theorem dX4_decode_48 : decode cX4_decode 48 = .ok (.istore 7, 2) := by decide +kernel
theorem dX4_decode_50 : decode cX4_decode 50 = .ok (.iload 6, 2) := by decide +kernel
theorem dX4_decode_52 : decode cX4_decode 52 = .ok (.iconst (-1), 1) := by decide +kernel
theorem dX4_decode_53 : decode cX4_decode 53 = .ok (.if_icmp .eq 9, 3) := by decide +kernel
theorem dX4_decode_56 : decode cX4_decode 56 = .ok (.iload 7, 2) := by decide +kernel
theorem dX4_decode_58 : decode cX4_decode 58 = .ok (.iconst (-1), 1) := by decide +kernel
theorem dX4_decode_59 : decode cX4_decode 59 = .ok (.if_icmp .ne 5, 3) := by decide +kernel
theorem dX4_decode_62 : decode cX4_decode 62 = .ok (.iconst 0, 1) := by decide +kernel
theorem dX4_decode_63 : decode cX4_decode 63 = .ok (.ireturn, 1) := by decide +kernel
theorem dX4_decode_64 : decode cX4_decode 64 = .ok (.aload_n 0, 1) := by decide +kernel
theorem dX4_decode_65 : decode cX4_decode 65 = .ok (.getfield 14, 3) := by decide +kernel
theorem dX4_decode_68 : decode cX4_decode 68 = .ok (.iload 6, 2) := by decide +kernel
theorem dX4_decode_70 : decode cX4_decode 70 = .ok (.bipush 16, 2) := by decide +kernel
theorem dX4_decode_72 : decode cX4_decode 72 = .ok (.imul, 1) := by decide +kernel
theorem dX4_decode_73 : decode cX4_decode 73 = .ok (.iload 7, 2) := by decide +kernel
theorem dX4_decode_75 : decode cX4_decode 75 = .ok (.iadd, 1) := by decide +kernel
theorem dX4_decode_76 : decode cX4_decode 76 = .ok (.invokevirtual 153, 3) := by decide +kernel
theorem dX4_decode_79 : decode cX4_decode 79 = .ok (.iinc 4 2, 3) := by decide +kernel
theorem dX4_decode_82 : decode cX4_decode 82 = .ok (.goto 37, 3) := by decide +kernel
theorem dX4_decode_85 : decode cX4_decode 85 = .ok (.iload 5, 2) := by decide +kernel
theorem dX4_decode_87 : decode cX4_decode 87 = .ok (.invokestatic 155, 3) := by decide +kernel
theorem dX4_decode_90 : decode cX4_decode 90 = .ok (.ifCond .eq 27, 3) := by decide +kernel
theorem dX4_decode_93 : decode cX4_decode 93 = .ok (.aload_n 0, 1) := by decide +kernel
theorem dX4_decode_94 : decode cX4_decode 94 = .ok (.getfield 14, 3) := by decide +kernel
theorem dX4_decode_97 : decode cX4_decode 97 = .ok (.iload 5, 2) := by decide +kernel
theorem dX4_decode_99 : decode cX4_decode 99 = .ok (.bipush 43, 2) := by decide +kernel
theorem dX4_decode_101 : decode cX4_decode 101 = .ok (.if_icmp .ne 8, 3) := by decide +kernel
theorem dX4_decode_104 : decode cX4_decode 104 = .ok (.bipush 32, 2) := by decide +kernel
theorem dX4_decode_106 : decode cX4_decode 106 = .ok (.goto 5, 3) := by decide +kernel
theorem dX4_decode_109 : decode cX4_decode 109 = .ok (.iload 5, 2) := by decide +kernel
theorem dX4_decode_111 : decode cX4_decode 111 = .ok (.invokevirtual 153, 3) := by decide +kernel
theorem dX4_decode_114 : decode cX4_decode 114 = .ok (.goto 5, 3) := by decide +kernel
theorem dX4_decode_117 : decode cX4_decode 117 = .ok (.iconst 0, 1) := by decide +kernel
theorem dX4_decode_118 : decode cX4_decode 118 = .ok (.ireturn, 1) := by decide +kernel
theorem dX4_decode_119 : decode cX4_decode 119 = .ok (.iinc 4 1, 3) := by decide +kernel
theorem dX4_decode_122 : decode cX4_decode 122 = .ok (.goto (-119), 3) := by decide +kernel
theorem dX4_decode_125 : decode cX4_decode 125 = .ok (.iconst 1, 1) := by decide +kernel
theorem dX4_decode_126 : decode cX4_decode 126 = .ok (.ireturn, 1) := by decide +kernel
theorem dX4_fieldOf_0 : decode cX4_fieldOf 0 = .ok (.iconst 0, 1) := by decide +kernel
theorem dX4_fieldOf_1 : decode cX4_fieldOf 1 = .ok (.istore_n 2, 1) := by decide +kernel
theorem dX4_fieldOf_2 : decode cX4_fieldOf 2 = .ok (.iload_n 2, 1) := by decide +kernel
theorem dX4_fieldOf_3 : decode cX4_fieldOf 3 = .ok (.aload_n 0, 1) := by decide +kernel
theorem dX4_fieldOf_4 : decode cX4_fieldOf 4 = .ok (.getfield 96, 3) := by decide +kernel
theorem dX4_fieldOf_7 : decode cX4_fieldOf 7 = .ok (.invokevirtual 122, 3) := by decide +kernel
theorem dX4_fieldOf_10 : decode cX4_fieldOf 10 = .ok (.if_icmp .ge 42, 3) := by decide +kernel
theorem dX4_fieldOf_13 : decode cX4_fieldOf 13 = .ok (.aload_n 1, 1) := by decide +kernel
theorem dX4_fieldOf_14 : decode cX4_fieldOf 14 = .ok (.aload_n 0, 1) := by decide +kernel
theorem dX4_fieldOf_15 : decode cX4_fieldOf 15 = .ok (.getfield 96, 3) := by decide +kernel
theorem dX4_fieldOf_18 : decode cX4_fieldOf 18 = .ok (.iload_n 2, 1) := by decide +kernel
theorem dX4_fieldOf_19 : decode cX4_fieldOf 19 = .ok (.invokevirtual 123, 3) := by decide +kernel
theorem dX4_fieldOf_22 : decode cX4_fieldOf 22 = .ok (.checkcast 26, 3) := by decide +kernel
theorem dX4_fieldOf_25 : decode cX4_fieldOf 25 = .ok (.getfield 159, 3) := by decide +kernel
theorem dX4_fieldOf_28 : decode cX4_fieldOf 28 = .ok (.invokevirtual 162, 3) := by decide +kernel
theorem dX4_fieldOf_31 : decode cX4_fieldOf 31 = .ok (.ifCond .eq 15, 3) := by decide +kernel
theorem dX4_fieldOf_34 : decode cX4_fieldOf 34 = .ok (.aload_n 0, 1) := by decide +kernel
theorem dX4_fieldOf_35 : decode cX4_fieldOf 35 = .ok (.getfield 96, 3) := by decide +kernel
theorem dX4_fieldOf_38 : decode cX4_fieldOf 38 = .ok (.iload_n 2, 1) := by decide +kernel
theorem dX4_fieldOf_39 : decode cX4_fieldOf 39 = .ok (.invokevirtual 123, 3) := by decide +kernel
theorem dX4_fieldOf_42 : decode cX4_fieldOf 42 = .ok (.checkcast 26, 3) := by decide +kernel
theorem dX4_fieldOf_45 : decode cX4_fieldOf 45 = .ok (.areturn, 1) := by decide +kernel
theorem dX4_fieldOf_46 : decode cX4_fieldOf 46 = .ok (.iinc 2 1, 3) := by decide +kernel
theorem dX4_fieldOf_49 : decode cX4_fieldOf 49 = .ok (.goto (-47), 3) := by decide +kernel
theorem dX4_fieldOf_52 : decode cX4_fieldOf 52 = .ok (.aconst_null, 1) := by decide +kernel
theorem dX4_fieldOf_53 : decode cX4_fieldOf 53 = .ok (.areturn, 1) := by decide +kernel
theorem dX5_init_0 : decode cX5_init 0 = .ok (.aload_n 0, 1) := by decide +kernel
theorem dX5_init_1 : decode cX5_init 1 = .ok (.invokespecial 3, 3) := by decide +kernel
theorem dX5_init_4 : decode cX5_init 4 = .ok (.aload_n 0, 1) := by decide +kernel
theorem dX5_init_5 : decode cX5_init 5 = .ok (.iconst 4, 1) := by decide +kernel
theorem dX5_init_6 : decode cX5_init 6 = .ok (.newarray .int, 2) := by decide +kernel
theorem dX5_init_8 : decode cX5_init 8 = .ok (.putfield 9, 3) := by decide +kernel
theorem dX5_init_11 : decode cX5_init 11 = .ok (.aload_n 0, 1) := by decide +kernel
theorem dX5_init_12 : decode cX5_init 12 = .ok (.new 15, 3) := by decide +kernel
theorem dX5_init_15 : decode cX5_init 15 = .ok (.dup, 1) := by decide +kernel
theorem dX5_init_16 : decode cX5_init 16 = .ok (.bipush 22, 2) := by decide +kernel
theorem dX5_init_18 : decode cX5_init 18 = .ok (.invokespecial 17, 3) := by decide +kernel
theorem dX5_init_21 : decode cX5_init 21 = .ok (.putfield 20, 3) := by decide +kernel
theorem dX5_init_24 : decode cX5_init 24 = .ok (.aload_n 0, 1) := by decide +kernel
theorem dX5_init_25 : decode cX5_init 25 = .ok (.iconst (-1), 1) := by decide +kernel
theorem dX5_init_26 : decode cX5_init 26 = .ok (.putfield 24, 3) := by decide +kernel
theorem dX5_init_29 : decode cX5_init 29 = .ok (.aload_n 0, 1) := by decide +kernel
theorem dX5_init_30 : decode cX5_init 30 = .ok (.iconst (-1), 1) := by decide +kernel
theorem dX5_init_31 : decode cX5_init 31 = .ok (.putfield 28, 3) := by decide +kernel
theorem dX5_init_34 : decode cX5_init 34 = .ok (.aload_n 0, 1) := by decide +kernel
theorem dX5_init_35 : decode cX5_init 35 = .ok (.getfield 9, 3) := by decide +kernel
theorem dX5_init_38 : decode cX5_init 38 = .ok (.iconst 0, 1) := by decide +kernel
theorem dX5_init_39 : decode cX5_init 39 = .ok (.iload_n 1, 1) := by decide +kernel
theorem dX5_init_40 : decode cX5_init 40 = .ok (.iastore, 1) := by decide +kernel
theorem dX5_init_41 : decode cX5_init 41 = .ok (.aload_n 0, 1) := by decide +kernel
theorem dX5_init_42 : decode cX5_init 42 = .ok (.getfield 9, 3) := by decide +kernel
theorem dX5_init_45 : decode cX5_init 45 = .ok (.iconst 1, 1) := by decide +kernel
theorem dX5_init_46 : decode cX5_init 46 = .ok (.iload_n 2, 1) := by decide +kernel
theorem dX5_init_47 : decode cX5_init 47 = .ok (.iastore, 1) := by decide +kernel
theorem dX5_init_48 : decode cX5_init 48 = .ok (.aload_n 0, 1) := by decide +kernel
theorem dX5_init_49 : decode cX5_init 49 = .ok (.getfield 9, 3) := by decide +kernel
theorem dX5_init_52 : decode cX5_init 52 = .ok (.iconst 2, 1) := by decide +kernel
theorem dX5_init_53 : decode cX5_init 53 = .ok (.iload_n 3, 1) := by decide +kernel
theorem dX5_init_54 : decode cX5_init 54 = .ok (.iastore, 1) := by decide +kernel
theorem dX5_init_55 : decode cX5_init 55 = .ok (.aload_n 0, 1) := by decide +kernel
theorem dX5_init_56 : decode cX5_init 56 = .ok (.getfield 9, 3) := by decide +kernel
theorem dX5_init_59 : decode cX5_init 59 = .ok (.iconst 3, 1) := by decide +kernel
theorem dX5_init_60 : decode cX5_init 60 = .ok (.iload 4, 2) := by decide +kernel
theorem dX5_init_62 : decode cX5_init 62 = .ok (.iastore, 1) := by decide +kernel
theorem dX5_init_63 : decode cX5_init 63 = .ok (.aload_n 0, 1) := by decide +kernel
theorem dX5_init_64 : decode cX5_init 64 = .ok (.getfield 20, 3) := by decide +kernel
theorem dX5_init_67 : decode cX5_init 67 = .ok (.aload_n 0, 1) := by decide +kernel
theorem dX5_init_68 : decode cX5_init 68 = .ok (.getfield 9, 3) := by decide +kernel
theorem dX5_init_71 : decode cX5_init 71 = .ok (.invokevirtual 31, 3) := by decide +kernel
theorem dX5_init_74 : decode cX5_init 74 = .ok (.return_, 1) := by decide +kernel
theorem dX5_isOf_0 : decode cX5_isOf 0 = .ok (.aload_n 0, 1) := by decide +kernel
theorem dX5_isOf_1 : decode cX5_isOf 1 = .ok (.getfield 9, 3) := by decide +kernel
theorem dX5_isOf_4 : decode cX5_isOf 4 = .ok (.iconst 0, 1) := by decide +kernel
theorem dX5_isOf_5 : decode cX5_isOf 5 = .ok (.iaload, 1) := by decide +kernel
theorem dX5_isOf_6 : decode cX5_isOf 6 = .ok (.aload_n 1, 1) := by decide +kernel
theorem dX5_isOf_7 : decode cX5_isOf 7 = .ok (.getfield 9, 3) := by decide +kernel
theorem dX5_isOf_10 : decode cX5_isOf 10 = .ok (.iconst 0, 1) := by decide +kernel
theorem dX5_isOf_11 : decode cX5_isOf 11 = .ok (.iaload, 1) := by decide +kernel
theorem dX5_isOf_12 : decode cX5_isOf 12 = .ok (.if_icmp .ne 52, 3) := by decide +kernel
theorem dX5_isOf_15 : decode cX5_isOf 15 = .ok (.aload_n 0, 1) := by decide +kernel
theorem dX5_isOf_16 : decode cX5_isOf 16 = .ok (.getfield 9, 3) := by decide +kernel
theorem dX5_isOf_19 : decode cX5_isOf 19 = .ok (.iconst 1, 1) := by decide +kernel
theorem dX5_isOf_20 : decode cX5_isOf 20 = .ok (.iaload, 1) := by decide +kernel
theorem dX5_isOf_21 : decode cX5_isOf 21 = .ok (.aload_n 1, 1) := by decide +kernel
theorem dX5_isOf_22 : decode cX5_isOf 22 = .ok (.getfield 9, 3) := by decide +kernel
theorem dX5_isOf_25 : decode cX5_isOf 25 = .ok (.iconst 1, 1) := by decide +kernel
theorem dX5_isOf_26 : decode cX5_isOf 26 = .ok (.iaload, 1) := by decide +kernel
theorem dX5_isOf_27 : decode cX5_isOf 27 = .ok (.if_icmp .ne 37, 3) := by decide +kernel
theorem dX5_isOf_30 : decode cX5_isOf 30 = .ok (.aload_n 0, 1) := by decide +kernel
theorem dX5_isOf_31 : decode cX5_isOf 31 = .ok (.getfield 9, 3) := by decide +kernel
theorem dX5_isOf_34 : decode cX5_isOf 34 = .ok (.iconst 2, 1) := by decide +kernel
theorem dX5_isOf_35 : decode cX5_isOf 35 = .ok (.iaload, 1) := by decide +kernel
theorem dX5_isOf_36 : decode cX5_isOf 36 = .ok (.aload_n 1, 1) := by decide +kernel
theorem dX5_isOf_37 : decode cX5_isOf 37 = .ok (.getfield 9, 3) := by decide +kernel
theorem dX5_isOf_40 : decode cX5_isOf 40 = .ok (.iconst 2, 1) := by decide +kernel
theorem dX5_isOf_41 : decode cX5_isOf 41 = .ok (.iaload, 1) := by decide +kernel
theorem dX5_isOf_42 : decode cX5_isOf 42 = .ok (.if_icmp .ne 22, 3) := by decide +kernel
theorem dX5_isOf_45 : decode cX5_isOf 45 = .ok (.aload_n 0, 1) := by decide +kernel
theorem dX5_isOf_46 : decode cX5_isOf 46 = .ok (.getfield 9, 3) := by decide +kernel
theorem dX5_isOf_49 : decode cX5_isOf 49 = .ok (.iconst 3, 1) := by decide +kernel
theorem dX5_isOf_50 : decode cX5_isOf 50 = .ok (.iaload, 1) := by decide +kernel
theorem dX5_isOf_51 : decode cX5_isOf 51 = .ok (.aload_n 1, 1) := by decide +kernel
theorem dX5_isOf_52 : decode cX5_isOf 52 = .ok (.getfield 9, 3) := by decide +kernel
theorem dX5_isOf_55 : decode cX5_isOf 55 = .ok (.iconst 3, 1) := by decide +kernel
theorem dX5_isOf_56 : decode cX5_isOf 56 = .ok (.iaload, 1) := by decide +kernel
theorem dX5_isOf_57 : decode cX5_isOf 57 = .ok (.if_icmp .ne 7, 3) := by decide +kernel
theorem dX5_isOf_60 : decode cX5_isOf 60 = .ok (.iconst 1, 1) := by decide +kernel
theorem dX5_isOf_61 : decode cX5_isOf 61 = .ok (.goto 4, 3) := by decide +kernel
theorem dX5_isOf_64 : decode cX5_isOf 64 = .ok (.iconst 0, 1) := by decide +kernel
theorem dX5_isOf_65 : decode cX5_isOf 65 = .ok (.ireturn, 1) := by decide +kernel
theorem dX6_init_0 : decode cX6_init 0 = .ok (.aload_n 0, 1) := by decide +kernel
theorem dX6_init_1 : decode cX6_init 1 = .ok (.invokespecial 3, 3) := by decide +kernel
theorem dX6_init_4 : decode cX6_init 4 = .ok (.aload_n 0, 1) := by decide +kernel
theorem dX6_init_5 : decode cX6_init 5 = .ok (.new 9, 3) := by decide +kernel
theorem dX6_init_8 : decode cX6_init 8 = .ok (.dup, 1) := by decide +kernel
theorem dX6_init_9 : decode cX6_init 9 = .ok (.invokespecial 11, 3) := by decide +kernel
theorem dX6_init_12 : decode cX6_init 12 = .ok (.putfield 12, 3) := by decide +kernel
theorem dX6_init_15 : decode cX6_init 15 = .ok (.aload_n 0, 1) := by decide +kernel
theorem dX6_init_16 : decode cX6_init 16 = .ok (.new 9, 3) := by decide +kernel
theorem dX6_init_19 : decode cX6_init 19 = .ok (.dup, 1) := by decide +kernel
theorem dX6_init_20 : decode cX6_init 20 = .ok (.invokespecial 11, 3) := by decide +kernel
theorem dX6_init_23 : decode cX6_init 23 = .ok (.putfield 18, 3) := by decide +kernel
theorem dX6_init_26 : decode cX6_init 26 = .ok (.return_, 1) := by decide +kernel
theorem dX6_waitingCount_0 : decode cX6_waitingCount 0 = .ok (.aload_n 0, 1) := by decide +kernel
theorem dX6_waitingCount_1 : decode cX6_waitingCount 1 = .ok (.getfield 12, 3) := by decide +kernel
theorem dX6_waitingCount_4 : decode cX6_waitingCount 4 = .ok (.invokevirtual 21, 3) := by decide +kernel
theorem dX6_waitingCount_7 : decode cX6_waitingCount 7 = .ok (.ireturn, 1) := by decide +kernel
theorem dX6_addDie_0 : decode cX6_addDie 0 = .ok (.aload_n 0, 1) := by decide +kernel
theorem dX6_addDie_1 : decode cX6_addDie 1 = .ok (.getfield 12, 3) := by decide +kernel
theorem dX6_addDie_4 : decode cX6_addDie 4 = .ok (.invokevirtual 21, 3) := by decide +kernel
theorem dX6_addDie_7 : decode cX6_addDie 7 = .ok (.bipush 60, 2) := by decide +kernel
theorem dX6_addDie_9 : decode cX6_addDie 9 = .ok (.if_icmp .lt 5, 3) := by decide +kernel
theorem dX6_addDie_12 : decode cX6_addDie 12 = .ok (.iconst 0, 1) := by decide +kernel
theorem dX6_addDie_13 : decode cX6_addDie 13 = .ok (.ireturn, 1) := by decide +kernel
theorem dX6_addDie_14 : decode cX6_addDie 14 = .ok (.aload_n 0, 1) := by decide +kernel
theorem dX6_addDie_15 : decode cX6_addDie 15 = .ok (.getfield 12, 3) := by decide +kernel
theorem dX6_addDie_18 : decode cX6_addDie 18 = .ok (.new 25, 3) := by decide +kernel
theorem dX6_addDie_21 : decode cX6_addDie 21 = .ok (.dup, 1) := by decide +kernel
theorem dX6_addDie_22 : decode cX6_addDie 22 = .ok (.iload_n 1, 1) := by decide +kernel
theorem dX6_addDie_23 : decode cX6_addDie 23 = .ok (.iload_n 2, 1) := by decide +kernel
theorem dX6_addDie_24 : decode cX6_addDie 24 = .ok (.iload_n 3, 1) := by decide +kernel
theorem dX6_addDie_25 : decode cX6_addDie 25 = .ok (.iload 4, 2) := by decide +kernel
theorem dX6_addDie_27 : decode cX6_addDie 27 = .ok (.invokespecial 27, 3) := by decide +kernel
theorem dX6_addDie_30 : decode cX6_addDie 30 = .ok (.invokevirtual 30, 3) := by decide +kernel
theorem dX6_addDie_33 : decode cX6_addDie 33 = .ok (.pop, 1) := by decide +kernel
theorem dX6_addDie_34 : decode cX6_addDie 34 = .ok (.iconst 1, 1) := by decide +kernel
theorem dX6_addDie_35 : decode cX6_addDie 35 = .ok (.ireturn, 1) := by decide +kernel
theorem dX6_canMake_0 : decode cX6_canMake 0 = .ok (.iconst 0, 1) := by decide +kernel
theorem dX6_canMake_1 : decode cX6_canMake 1 = .ok (.istore_n 2, 1) := by decide +kernel
theorem dX6_canMake_2 : decode cX6_canMake 2 = .ok (.iconst 0, 1) := by decide +kernel
theorem dX6_canMake_3 : decode cX6_canMake 3 = .ok (.istore_n 3, 1) := by decide +kernel
theorem dX6_canMake_4 : decode cX6_canMake 4 = .ok (.iload_n 3, 1) := by decide +kernel
theorem dX6_canMake_5 : decode cX6_canMake 5 = .ok (.aload_n 0, 1) := by decide +kernel
theorem dX6_canMake_6 : decode cX6_canMake 6 = .ok (.getfield 12, 3) := by decide +kernel
theorem dX6_canMake_9 : decode cX6_canMake 9 = .ok (.invokevirtual 21, 3) := by decide +kernel
theorem dX6_canMake_12 : decode cX6_canMake 12 = .ok (.if_icmp .ge 65, 3) := by decide +kernel
theorem dX6_canMake_15 : decode cX6_canMake 15 = .ok (.iload_n 2, 1) := by decide +kernel
theorem dX6_canMake_16 : decode cX6_canMake 16 = .ok (.iload_n 1, 1) := by decide +kernel
theorem dX6_canMake_17 : decode cX6_canMake 17 = .ok (.if_icmp .ge 60, 3) := by decide +kernel
theorem dX6_canMake_20 : decode cX6_canMake 20 = .ok (.aload_n 0, 1) := by decide +kernel
theorem dX6_canMake_21 : decode cX6_canMake 21 = .ok (.getfield 12, 3) := by decide +kernel
theorem dX6_canMake_24 : decode cX6_canMake 24 = .ok (.iload_n 3, 1) := by decide +kernel
theorem dX6_canMake_25 : decode cX6_canMake 25 = .ok (.invokevirtual 34, 3) := by decide +kernel
theorem dX6_canMake_28 : decode cX6_canMake 28 = .ok (.checkcast 25, 3) := by decide +kernel
theorem dX6_canMake_31 : decode cX6_canMake 31 = .ok (.astore 4, 2) := by decide +kernel
theorem dX6_canMake_33 : decode cX6_canMake 33 = .ok (.aload 4, 2) := by decide +kernel
theorem dX6_canMake_35 : decode cX6_canMake 35 = .ok (.aload_n 0, 1) := by decide +kernel
theorem dX6_canMake_36 : decode cX6_canMake 36 = .ok (.getfield 18, 3) := by decide +kernel
theorem dX6_canMake_39 : decode cX6_canMake 39 = .ok (.aload_n 0, 1) := by decide +kernel
theorem dX6_canMake_40 : decode cX6_canMake 40 = .ok (.getfield 18, 3) := by decide +kernel
theorem dX6_canMake_43 : decode cX6_canMake 43 = .ok (.invokevirtual 21, 3) := by decide +kernel
theorem dX6_canMake_46 : decode cX6_canMake 46 = .ok (.invokestatic 38, 3) := by decide +kernel
theorem dX6_canMake_49 : decode cX6_canMake 49 = .ok (.ifCond .ne 22, 3) := by decide +kernel
theorem dX6_canMake_52 : decode cX6_canMake 52 = .ok (.aload 4, 2) := by decide +kernel
theorem dX6_canMake_54 : decode cX6_canMake 54 = .ok (.aload_n 0, 1) := by decide +kernel
theorem dX6_canMake_55 : decode cX6_canMake 55 = .ok (.getfield 12, 3) := by decide +kernel
theorem dX6_canMake_58 : decode cX6_canMake 58 = .ok (.iload_n 3, 1) := by decide +kernel
theorem dX6_canMake_59 : decode cX6_canMake 59 = .ok (.invokestatic 38, 3) := by decide +kernel
theorem dX6_canMake_62 : decode cX6_canMake 62 = .ok (.ifCond .eq 6, 3) := by decide +kernel
theorem dX6_canMake_65 : decode cX6_canMake 65 = .ok (.goto 6, 3) := by decide +kernel
theorem dX6_canMake_68 : decode cX6_canMake 68 = .ok (.iinc 2 1, 3) := by decide +kernel
theorem dX6_canMake_71 : decode cX6_canMake 71 = .ok (.iinc 3 1, 3) := by decide +kernel
theorem dX6_canMake_74 : decode cX6_canMake 74 = .ok (.goto (-70), 3) := by decide +kernel
theorem dX6_canMake_77 : decode cX6_canMake 77 = .ok (.iload_n 2, 1) := by decide +kernel
theorem dX6_canMake_78 : decode cX6_canMake 78 = .ok (.iload_n 1, 1) := by decide +kernel
theorem dX6_canMake_79 : decode cX6_canMake 79 = .ok (.if_icmp .lt 7, 3) := by decide +kernel
theorem dX6_canMake_82 : decode cX6_canMake 82 = .ok (.iconst 1, 1) := by decide +kernel
theorem dX6_canMake_83 : decode cX6_canMake 83 = .ok (.goto 4, 3) := by decide +kernel
theorem dX6_canMake_86 : decode cX6_canMake 86 = .ok (.iconst 0, 1) := by decide +kernel
theorem dX6_canMake_87 : decode cX6_canMake 87 = .ok (.ireturn, 1) := by decide +kernel
theorem dX6_isAhead_0 : decode cX6_isAhead 0 = .ok (.iconst 0, 1) := by decide +kernel
theorem dX6_isAhead_1 : decode cX6_isAhead 1 = .ok (.istore_n 3, 1) := by decide +kernel
theorem dX6_isAhead_2 : decode cX6_isAhead 2 = .ok (.iload_n 3, 1) := by decide +kernel
theorem dX6_isAhead_3 : decode cX6_isAhead 3 = .ok (.iload_n 2, 1) := by decide +kernel
theorem dX6_isAhead_4 : decode cX6_isAhead 4 = .ok (.if_icmp .ge 34, 3) := by decide +kernel
theorem dX6_isAhead_7 : decode cX6_isAhead 7 = .ok (.iload_n 3, 1) := by decide +kernel
theorem dX6_isAhead_8 : decode cX6_isAhead 8 = .ok (.aload_n 1, 1) := by decide +kernel
theorem dX6_isAhead_9 : decode cX6_isAhead 9 = .ok (.invokevirtual 21, 3) := by decide +kernel
theorem dX6_isAhead_12 : decode cX6_isAhead 12 = .ok (.if_icmp .ge 26, 3) := by decide +kernel
theorem dX6_isAhead_15 : decode cX6_isAhead 15 = .ok (.aload_n 0, 1) := by decide +kernel
theorem dX6_isAhead_16 : decode cX6_isAhead 16 = .ok (.aload_n 1, 1) := by decide +kernel
theorem dX6_isAhead_17 : decode cX6_isAhead 17 = .ok (.iload_n 3, 1) := by decide +kernel
theorem dX6_isAhead_18 : decode cX6_isAhead 18 = .ok (.invokevirtual 34, 3) := by decide +kernel
theorem dX6_isAhead_21 : decode cX6_isAhead 21 = .ok (.checkcast 25, 3) := by decide +kernel
theorem dX6_isAhead_24 : decode cX6_isAhead 24 = .ok (.invokevirtual 42, 3) := by decide +kernel
theorem dX6_isAhead_27 : decode cX6_isAhead 27 = .ok (.ifCond .eq 5, 3) := by decide +kernel
theorem dX6_isAhead_30 : decode cX6_isAhead 30 = .ok (.iconst 1, 1) := by decide +kernel
theorem dX6_isAhead_31 : decode cX6_isAhead 31 = .ok (.ireturn, 1) := by decide +kernel
theorem dX6_isAhead_32 : decode cX6_isAhead 32 = .ok (.iinc 3 1, 3) := by decide +kernel
theorem dX6_isAhead_35 : decode cX6_isAhead 35 = .ok (.goto (-33), 3) := by decide +kernel
theorem dX6_isAhead_38 : decode cX6_isAhead 38 = .ok (.iconst 0, 1) := by decide +kernel
theorem dX6_isAhead_39 : decode cX6_isAhead 39 = .ok (.ireturn, 1) := by decide +kernel
theorem dX6_make_0 : decode cX6_make 0 = .ok (.aload_n 0, 1) := by decide +kernel
theorem dX6_make_1 : decode cX6_make 1 = .ok (.getfield 12, 3) := by decide +kernel
theorem dX6_make_4 : decode cX6_make 4 = .ok (.invokevirtual 21, 3) := by decide +kernel
theorem dX6_make_7 : decode cX6_make 7 = .ok (.istore 4, 2) := by decide +kernel
theorem dX6_make_9 : decode cX6_make 9 = .ok (.iconst 0, 1) := by decide +kernel
theorem dX6_make_10 : decode cX6_make 10 = .ok (.istore 5, 2) := by decide +kernel
theorem dX6_make_12 : decode cX6_make 12 = .ok (.iload 5, 2) := by decide +kernel
theorem dX6_make_14 : decode cX6_make 14 = .ok (.iload 4, 2) := by decide +kernel
theorem dX6_make_16 : decode cX6_make 16 = .ok (.if_icmp .ge 92, 3) := by decide +kernel
theorem dX6_make_19 : decode cX6_make 19 = .ok (.aload_n 0, 1) := by decide +kernel
theorem dX6_make_20 : decode cX6_make 20 = .ok (.getfield 12, 3) := by decide +kernel
theorem dX6_make_23 : decode cX6_make 23 = .ok (.invokevirtual 46, 3) := by decide +kernel
theorem dX6_make_26 : decode cX6_make 26 = .ok (.ifCond .ne 82, 3) := by decide +kernel
theorem dX6_make_29 : decode cX6_make 29 = .ok (.aload_n 0, 1) := by decide +kernel
theorem dX6_make_30 : decode cX6_make 30 = .ok (.getfield 12, 3) := by decide +kernel
theorem dX6_make_33 : decode cX6_make 33 = .ok (.iconst 0, 1) := by decide +kernel
theorem dX6_make_34 : decode cX6_make 34 = .ok (.invokevirtual 50, 3) := by decide +kernel
theorem dX6_make_37 : decode cX6_make 37 = .ok (.checkcast 25, 3) := by decide +kernel
theorem dX6_make_40 : decode cX6_make 40 = .ok (.astore 6, 2) := by decide +kernel
theorem dX6_make_42 : decode cX6_make 42 = .ok (.aload 6, 2) := by decide +kernel
theorem dX6_make_44 : decode cX6_make 44 = .ok (.aload_n 0, 1) := by decide +kernel
theorem dX6_make_45 : decode cX6_make 45 = .ok (.getfield 18, 3) := by decide +kernel
theorem dX6_make_48 : decode cX6_make 48 = .ok (.aload_n 0, 1) := by decide +kernel
theorem dX6_make_49 : decode cX6_make 49 = .ok (.getfield 18, 3) := by decide +kernel
theorem dX6_make_52 : decode cX6_make 52 = .ok (.invokevirtual 21, 3) := by decide +kernel
theorem dX6_make_55 : decode cX6_make 55 = .ok (.invokestatic 38, 3) := by decide +kernel
theorem dX6_make_58 : decode cX6_make 58 = .ok (.ifCond .ne 44, 3) := by decide +kernel
theorem dX6_make_61 : decode cX6_make 61 = .ok (.aload 6, 2) := by decide +kernel
theorem dX6_make_63 : decode cX6_make 63 = .ok (.iload_n 1, 1) := by decide +kernel
theorem dX6_make_64 : decode cX6_make 64 = .ok (.putfield 53, 3) := by decide +kernel
theorem dX6_make_67 : decode cX6_make 67 = .ok (.aload 6, 2) := by decide +kernel
theorem dX6_make_69 : decode cX6_make 69 = .ok (.iload_n 2, 1) := by decide +kernel
theorem dX6_make_70 : decode cX6_make 70 = .ok (.putfield 57, 3) := by decide +kernel
theorem dX6_make_73 : decode cX6_make 73 = .ok (.aload_n 0, 1) := by decide +kernel
theorem dX6_make_74 : decode cX6_make 74 = .ok (.getfield 18, 3) := by decide +kernel
theorem dX6_make_77 : decode cX6_make 77 = .ok (.aload 6, 2) := by decide +kernel
theorem dX6_make_79 : decode cX6_make 79 = .ok (.invokevirtual 30, 3) := by decide +kernel
theorem dX6_make_82 : decode cX6_make 82 = .ok (.pop, 1) := by decide +kernel
theorem dX6_make_83 : decode cX6_make 83 = .ok (.aload_n 3, 1) := by decide +kernel
theorem dX6_make_84 : decode cX6_make 84 = .ok (.aload 6, 2) := by decide +kernel
theorem dX6_make_86 : decode cX6_make 86 = .ok (.getfield 60, 3) := by decide +kernel
theorem dX6_make_89 : decode cX6_make 89 = .ok (.iconst 0, 1) := by decide +kernel
theorem dX6_make_90 : decode cX6_make 90 = .ok (.aload 6, 2) := by decide +kernel
theorem dX6_make_92 : decode cX6_make 92 = .ok (.getfield 60, 3) := by decide +kernel
theorem dX6_make_95 : decode cX6_make 95 = .ok (.invokevirtual 64, 3) := by decide +kernel
theorem dX6_make_98 : decode cX6_make 98 = .ok (.invokevirtual 67, 3) := by decide +kernel
theorem dX6_make_101 : decode cX6_make 101 = .ok (.return_, 1) := by decide +kernel
theorem dX6_make_102 : decode cX6_make 102 = .ok (.iinc 5 1, 3) := by decide +kernel
theorem dX6_make_105 : decode cX6_make 105 = .ok (.goto (-93), 3) := by decide +kernel
theorem dX6_make_108 : decode cX6_make 108 = .ok (.return_, 1) := by decide +kernel
theorem dX6_find_0 : decode cX6_find 0 = .ok (.iconst 0, 1) := by decide +kernel
theorem dX6_find_1 : decode cX6_find 1 = .ok (.istore_n 3, 1) := by decide +kernel
theorem dX6_find_2 : decode cX6_find 2 = .ok (.iload_n 3, 1) := by decide +kernel
theorem dX6_find_3 : decode cX6_find 3 = .ok (.aload_n 0, 1) := by decide +kernel
theorem dX6_find_4 : decode cX6_find 4 = .ok (.getfield 18, 3) := by decide +kernel
theorem dX6_find_7 : decode cX6_find 7 = .ok (.invokevirtual 21, 3) := by decide +kernel
theorem dX6_find_10 : decode cX6_find 10 = .ok (.if_icmp .ge 49, 3) := by decide +kernel
theorem dX6_find_13 : decode cX6_find 13 = .ok (.aload_n 0, 1) := by decide +kernel
theorem dX6_find_14 : decode cX6_find 14 = .ok (.getfield 18, 3) := by decide +kernel
theorem dX6_find_17 : decode cX6_find 17 = .ok (.iload_n 3, 1) := by decide +kernel
theorem dX6_find_18 : decode cX6_find 18 = .ok (.invokevirtual 34, 3) := by decide +kernel
theorem dX6_find_21 : decode cX6_find 21 = .ok (.checkcast 25, 3) := by decide +kernel
theorem dX6_find_24 : decode cX6_find 24 = .ok (.astore 4, 2) := by decide +kernel
theorem dX6_find_26 : decode cX6_find 26 = .ok (.aload 4, 2) := by decide +kernel
theorem dX6_find_28 : decode cX6_find 28 = .ok (.getfield 53, 3) := by decide +kernel
theorem dX6_find_31 : decode cX6_find 31 = .ok (.iload_n 1, 1) := by decide +kernel
theorem dX6_find_32 : decode cX6_find 32 = .ok (.if_icmp .ne 21, 3) := by decide +kernel
theorem dX6_find_35 : decode cX6_find 35 = .ok (.aload 4, 2) := by decide +kernel
theorem dX6_find_37 : decode cX6_find 37 = .ok (.getfield 60, 3) := by decide +kernel
theorem dX6_find_40 : decode cX6_find 40 = .ok (.aload_n 2, 1) := by decide +kernel
theorem dX6_find_41 : decode cX6_find 41 = .ok (.invokevirtual 71, 3) := by decide +kernel
theorem dX6_find_44 : decode cX6_find 44 = .ok (.ifCond .eq 9, 3) := by decide +kernel
theorem dX6_find_47 : decode cX6_find 47 = .ok (.aload 4, 2) := by decide +kernel
theorem dX6_find_49 : decode cX6_find 49 = .ok (.getfield 57, 3) := by decide +kernel
theorem dX6_find_52 : decode cX6_find 52 = .ok (.ireturn, 1) := by decide +kernel
theorem dX6_find_53 : decode cX6_find 53 = .ok (.iinc 3 1, 3) := by decide +kernel
theorem dX6_find_56 : decode cX6_find 56 = .ok (.goto (-54), 3) := by decide +kernel
theorem dX6_find_59 : decode cX6_find 59 = .ok (.iconst (-1), 1) := by decide +kernel
theorem dX6_find_60 : decode cX6_find 60 = .ok (.ireturn, 1) := by decide +kernel
theorem dX7_init_0 : decode cX7_init 0 = .ok (.aload_n 0, 1) := by decide +kernel
theorem dX7_init_1 : decode cX7_init 1 = .ok (.invokespecial 1, 3) := by decide +kernel
theorem dX7_init_4 : decode cX7_init 4 = .ok (.aload_n 0, 1) := by decide +kernel
theorem dX7_init_5 : decode cX7_init 5 = .ok (.iconst 1, 1) := by decide +kernel
theorem dX7_init_6 : decode cX7_init 6 = .ok (.putfield 7, 3) := by decide +kernel
theorem dX7_init_9 : decode cX7_init 9 = .ok (.aload_n 0, 1) := by decide +kernel
theorem dX7_init_10 : decode cX7_init 10 = .ok (.aload_n 1, 1) := by decide +kernel
theorem dX7_init_11 : decode cX7_init 11 = .ok (.putfield 13, 3) := by decide +kernel
theorem dX7_init_14 : decode cX7_init 14 = .ok (.aload_n 0, 1) := by decide +kernel
theorem dX7_init_15 : decode cX7_init 15 = .ok (.aload_n 2, 1) := by decide +kernel
theorem dX7_init_16 : decode cX7_init 16 = .ok (.putfield 17, 3) := by decide +kernel
theorem dX7_init_19 : decode cX7_init 19 = .ok (.aload_n 0, 1) := by decide +kernel
theorem dX7_init_20 : decode cX7_init 20 = .ok (.iload_n 3, 1) := by decide +kernel
theorem dX7_init_21 : decode cX7_init 21 = .ok (.putfield 21, 3) := by decide +kernel
theorem dX7_init_24 : decode cX7_init 24 = .ok (.aload_n 0, 1) := by decide +kernel
theorem dX7_init_25 : decode cX7_init 25 = .ok (.aload 4, 2) := by decide +kernel
theorem dX7_init_27 : decode cX7_init 27 = .ok (.putfield 25, 3) := by decide +kernel
theorem dX7_init_30 : decode cX7_init 30 = .ok (.aload_n 0, 1) := by decide +kernel
theorem dX7_init_31 : decode cX7_init 31 = .ok (.aload 5, 2) := by decide +kernel
theorem dX7_init_33 : decode cX7_init 33 = .ok (.putfield 28, 3) := by decide +kernel
theorem dX7_init_36 : decode cX7_init 36 = .ok (.return_, 1) := by decide +kernel
theorem dX8_init_0 : decode cX8_init 0 = .ok (.aload_n 0, 1) := by decide +kernel
theorem dX8_init_1 : decode cX8_init 1 = .ok (.invokespecial 3, 3) := by decide +kernel
theorem dX8_init_4 : decode cX8_init 4 = .ok (.aload_n 0, 1) := by decide +kernel
theorem dX8_init_5 : decode cX8_init 5 = .ok (.bipush 8, 2) := by decide +kernel
theorem dX8_init_7 : decode cX8_init 7 = .ok (.newarray .int, 2) := by decide +kernel
theorem dX8_init_9 : decode cX8_init 9 = .ok (.putfield 9, 3) := by decide +kernel
theorem dX8_init_12 : decode cX8_init 12 = .ok (.aload_n 0, 1) := by decide +kernel
theorem dX8_init_13 : decode cX8_init 13 = .ok (.bipush 64, 2) := by decide +kernel
theorem dX8_init_15 : decode cX8_init 15 = .ok (.newarray .int, 2) := by decide +kernel
theorem dX8_init_17 : decode cX8_init 17 = .ok (.putfield 15, 3) := by decide +kernel
theorem dX8_init_20 : decode cX8_init 20 = .ok (.aload_n 0, 1) := by decide +kernel
theorem dX8_init_21 : decode cX8_init 21 = .ok (.new 18, 3) := by decide +kernel
theorem dX8_init_24 : decode cX8_init 24 = .ok (.dup, 1) := by decide +kernel
theorem dX8_init_25 : decode cX8_init 25 = .ok (.bipush 43, 2) := by decide +kernel
theorem dX8_init_27 : decode cX8_init 27 = .ok (.invokespecial 20, 3) := by decide +kernel
theorem dX8_init_30 : decode cX8_init 30 = .ok (.putfield 23, 3) := by decide +kernel
theorem dX8_init_33 : decode cX8_init 33 = .ok (.return_, 1) := by decide +kernel
theorem dX8_signs_0 : decode cX8_signs 0 = .ok (.getstatic 27, 3) := by decide +kernel
theorem dX8_signs_3 : decode cX8_signs 3 = .ok (.iconst 0, 1) := by decide +kernel
theorem dX8_signs_4 : decode cX8_signs 4 = .ok (.aload_n 0, 1) := by decide +kernel
theorem dX8_signs_5 : decode cX8_signs 5 = .ok (.getfield 9, 3) := by decide +kernel
theorem dX8_signs_8 : decode cX8_signs 8 = .ok (.iconst 0, 1) := by decide +kernel
theorem dX8_signs_9 : decode cX8_signs 9 = .ok (.bipush 8, 2) := by decide +kernel
theorem dX8_signs_11 : decode cX8_signs 11 = .ok (.invokestatic 30, 3) := by decide +kernel
theorem dX8_signs_14 : decode cX8_signs 14 = .ok (.aload_n 1, 1) := by decide +kernel
theorem dX8_signs_15 : decode cX8_signs 15 = .ok (.invokevirtual 36, 3) := by decide +kernel
theorem dX8_signs_18 : decode cX8_signs 18 = .ok (.bipush 8, 2) := by decide +kernel
theorem dX8_signs_20 : decode cX8_signs 20 = .ok (.iadd, 1) := by decide +kernel
theorem dX8_signs_21 : decode cX8_signs 21 = .ok (.bipush 64, 2) := by decide +kernel
theorem dX8_signs_23 : decode cX8_signs 23 = .ok (.idiv, 1) := by decide +kernel
theorem dX8_signs_24 : decode cX8_signs 24 = .ok (.iconst 1, 1) := by decide +kernel
theorem dX8_signs_25 : decode cX8_signs 25 = .ok (.iadd, 1) := by decide +kernel
theorem dX8_signs_26 : decode cX8_signs 26 = .ok (.istore_n 2, 1) := by decide +kernel
theorem dX8_signs_27 : decode cX8_signs 27 = .ok (.iconst 0, 1) := by decide +kernel
theorem dX8_signs_28 : decode cX8_signs 28 = .ok (.istore_n 3, 1) := by decide +kernel
theorem dX8_signs_29 : decode cX8_signs 29 = .ok (.iload_n 3, 1) := by decide +kernel
theorem dX8_signs_30 : decode cX8_signs 30 = .ok (.iload_n 2, 1) := by decide +kernel
theorem dX8_signs_31 : decode cX8_signs 31 = .ok (.if_icmp .ge 26, 3) := by decide +kernel
theorem dX8_signs_34 : decode cX8_signs 34 = .ok (.aload_n 0, 1) := by decide +kernel
theorem dX8_signs_35 : decode cX8_signs 35 = .ok (.aload_n 1, 1) := by decide +kernel
theorem dX8_signs_36 : decode cX8_signs 36 = .ok (.iload_n 3, 1) := by decide +kernel
theorem dX8_signs_37 : decode cX8_signs 37 = .ok (.bipush 64, 2) := by decide +kernel
theorem dX8_signs_39 : decode cX8_signs 39 = .ok (.imul, 1) := by decide +kernel
theorem dX8_signs_40 : decode cX8_signs 40 = .ok (.iload_n 2, 1) := by decide +kernel
theorem dX8_signs_41 : decode cX8_signs 41 = .ok (.bipush 64, 2) := by decide +kernel
theorem dX8_signs_43 : decode cX8_signs 43 = .ok (.imul, 1) := by decide +kernel
theorem dX8_signs_44 : decode cX8_signs 44 = .ok (.invokevirtual 40, 3) := by decide +kernel
theorem dX8_signs_47 : decode cX8_signs 47 = .ok (.aload_n 0, 1) := by decide +kernel
theorem dX8_signs_48 : decode cX8_signs 48 = .ok (.invokevirtual 44, 3) := by decide +kernel
theorem dX8_signs_51 : decode cX8_signs 51 = .ok (.iinc 3 1, 3) := by decide +kernel
theorem dX8_signs_54 : decode cX8_signs 54 = .ok (.goto (-25), 3) := by decide +kernel
theorem dX8_signs_57 : decode cX8_signs 57 = .ok (.aload_n 0, 1) := by decide +kernel
theorem dX8_signs_58 : decode cX8_signs 58 = .ok (.getfield 23, 3) := by decide +kernel
theorem dX8_signs_61 : decode cX8_signs 61 = .ok (.invokevirtual 47, 3) := by decide +kernel
theorem dX8_signs_64 : decode cX8_signs 64 = .ok (.aload_n 0, 1) := by decide +kernel
theorem dX8_signs_65 : decode cX8_signs 65 = .ok (.getfield 23, 3) := by decide +kernel
theorem dX8_signs_68 : decode cX8_signs 68 = .ok (.aload_n 0, 1) := by decide +kernel
theorem dX8_signs_69 : decode cX8_signs 69 = .ok (.getfield 9, 3) := by decide +kernel
theorem dX8_signs_72 : decode cX8_signs 72 = .ok (.invokevirtual 50, 3) := by decide +kernel
theorem dX8_signs_75 : decode cX8_signs 75 = .ok (.aload_n 0, 1) := by decide +kernel
theorem dX8_signs_76 : decode cX8_signs 76 = .ok (.getfield 23, 3) := by decide +kernel
theorem dX8_signs_79 : decode cX8_signs 79 = .ok (.areturn, 1) := by decide +kernel
theorem dX8_fillSchedule_0 : decode cX8_fillSchedule 0 = .ok (.iconst 0, 1) := by decide +kernel
theorem dX8_fillSchedule_1 : decode cX8_fillSchedule 1 = .ok (.istore 4, 2) := by decide +kernel
theorem dX8_fillSchedule_3 : decode cX8_fillSchedule 3 = .ok (.iload 4, 2) := by decide +kernel
theorem dX8_fillSchedule_5 : decode cX8_fillSchedule 5 = .ok (.bipush 16, 2) := by decide +kernel
theorem dX8_fillSchedule_7 : decode cX8_fillSchedule 7 = .ok (.if_icmp .ge 58, 3) := by decide +kernel
theorem dX8_fillSchedule_10 : decode cX8_fillSchedule 10 = .ok (.iconst 0, 1) := by decide +kernel
theorem dX8_fillSchedule_11 : decode cX8_fillSchedule 11 = .ok (.istore 5, 2) := by decide +kernel
theorem dX8_fillSchedule_13 : decode cX8_fillSchedule 13 = .ok (.iconst 0, 1) := by decide +kernel
theorem dX8_fillSchedule_14 : decode cX8_fillSchedule 14 = .ok (.istore 6, 2) := by decide +kernel
theorem dX8_fillSchedule_16 : decode cX8_fillSchedule 16 = .ok (.iload 6, 2) := by decide +kernel
theorem dX8_fillSchedule_18 : decode cX8_fillSchedule 18 = .ok (.iconst 4, 1) := by decide +kernel
theorem dX8_fillSchedule_19 : decode cX8_fillSchedule 19 = .ok (.if_icmp .ge 31, 3) := by decide +kernel
theorem dX8_fillSchedule_22 : decode cX8_fillSchedule 22 = .ok (.iload 5, 2) := by decide +kernel
theorem dX8_fillSchedule_24 : decode cX8_fillSchedule 24 = .ok (.bipush 8, 2) := by decide +kernel
theorem dX8_fillSchedule_26 : decode cX8_fillSchedule 26 = .ok (.ishl, 1) := by decide +kernel
theorem dX8_fillSchedule_27 : decode cX8_fillSchedule 27 = .ok (.aload_n 1, 1) := by decide +kernel
theorem dX8_fillSchedule_28 : decode cX8_fillSchedule 28 = .ok (.iload_n 2, 1) := by decide +kernel
theorem dX8_fillSchedule_29 : decode cX8_fillSchedule 29 = .ok (.iload 4, 2) := by decide +kernel
theorem dX8_fillSchedule_31 : decode cX8_fillSchedule 31 = .ok (.iconst 4, 1) := by decide +kernel
theorem dX8_fillSchedule_32 : decode cX8_fillSchedule 32 = .ok (.imul, 1) := by decide +kernel
theorem dX8_fillSchedule_33 : decode cX8_fillSchedule 33 = .ok (.iadd, 1) := by decide +kernel
theorem dX8_fillSchedule_34 : decode cX8_fillSchedule 34 = .ok (.iload 6, 2) := by decide +kernel
theorem dX8_fillSchedule_36 : decode cX8_fillSchedule 36 = .ok (.iadd, 1) := by decide +kernel
theorem dX8_fillSchedule_37 : decode cX8_fillSchedule 37 = .ok (.iload_n 3, 1) := by decide +kernel
theorem dX8_fillSchedule_38 : decode cX8_fillSchedule 38 = .ok (.invokestatic 54, 3) := by decide +kernel
theorem dX8_fillSchedule_41 : decode cX8_fillSchedule 41 = .ok (.ior, 1) := by decide +kernel
theorem dX8_fillSchedule_42 : decode cX8_fillSchedule 42 = .ok (.istore 5, 2) := by decide +kernel
theorem dX8_fillSchedule_44 : decode cX8_fillSchedule 44 = .ok (.iinc 6 1, 3) := by decide +kernel
theorem dX8_fillSchedule_47 : decode cX8_fillSchedule 47 = .ok (.goto (-31), 3) := by decide +kernel
theorem dX8_fillSchedule_50 : decode cX8_fillSchedule 50 = .ok (.aload_n 0, 1) := by decide +kernel
theorem dX8_fillSchedule_51 : decode cX8_fillSchedule 51 = .ok (.getfield 15, 3) := by decide +kernel
theorem dX8_fillSchedule_54 : decode cX8_fillSchedule 54 = .ok (.iload 4, 2) := by decide +kernel
theorem dX8_fillSchedule_56 : decode cX8_fillSchedule 56 = .ok (.iload 5, 2) := by decide +kernel
theorem dX8_fillSchedule_58 : decode cX8_fillSchedule 58 = .ok (.iastore, 1) := by decide +kernel
theorem dX8_fillSchedule_59 : decode cX8_fillSchedule 59 = .ok (.iinc 4 1, 3) := by decide +kernel
theorem dX8_fillSchedule_62 : decode cX8_fillSchedule 62 = .ok (.goto (-59), 3) := by decide +kernel
theorem dX8_fillSchedule_65 : decode cX8_fillSchedule 65 = .ok (.bipush 16, 2) := by decide +kernel
theorem dX8_fillSchedule_67 : decode cX8_fillSchedule 67 = .ok (.istore 4, 2) := by decide +kernel
theorem dX8_fillSchedule_69 : decode cX8_fillSchedule 69 = .ok (.iload 4, 2) := by decide +kernel
theorem dX8_fillSchedule_71 : decode cX8_fillSchedule 71 = .ok (.bipush 64, 2) := by decide +kernel
theorem dX8_fillSchedule_73 : decode cX8_fillSchedule 73 = .ok (.if_icmp .ge 111, 3) := by decide +kernel
theorem dX8_fillSchedule_76 : decode cX8_fillSchedule 76 = .ok (.aload_n 0, 1) := by decide +kernel
theorem dX8_fillSchedule_77 : decode cX8_fillSchedule 77 = .ok (.getfield 15, 3) := by decide +kernel
theorem dX8_fillSchedule_80 : decode cX8_fillSchedule 80 = .ok (.iload 4, 2) := by decide +kernel
theorem dX8_fillSchedule_82 : decode cX8_fillSchedule 82 = .ok (.bipush 15, 2) := by decide +kernel
theorem dX8_fillSchedule_84 : decode cX8_fillSchedule 84 = .ok (.isub, 1) := by decide +kernel
theorem dX8_fillSchedule_85 : decode cX8_fillSchedule 85 = .ok (.iaload, 1) := by decide +kernel
theorem dX8_fillSchedule_86 : decode cX8_fillSchedule 86 = .ok (.istore 5, 2) := by decide +kernel
theorem dX8_fillSchedule_88 : decode cX8_fillSchedule 88 = .ok (.aload_n 0, 1) := by decide +kernel
theorem dX8_fillSchedule_89 : decode cX8_fillSchedule 89 = .ok (.getfield 15, 3) := by decide +kernel
theorem dX8_fillSchedule_92 : decode cX8_fillSchedule 92 = .ok (.iload 4, 2) := by decide +kernel
theorem dX8_fillSchedule_94 : decode cX8_fillSchedule 94 = .ok (.iconst 2, 1) := by decide +kernel
theorem dX8_fillSchedule_95 : decode cX8_fillSchedule 95 = .ok (.isub, 1) := by decide +kernel
theorem dX8_fillSchedule_96 : decode cX8_fillSchedule 96 = .ok (.iaload, 1) := by decide +kernel
theorem dX8_fillSchedule_97 : decode cX8_fillSchedule 97 = .ok (.istore 6, 2) := by decide +kernel
theorem dX8_fillSchedule_99 : decode cX8_fillSchedule 99 = .ok (.iload 5, 2) := by decide +kernel
theorem dX8_fillSchedule_101 : decode cX8_fillSchedule 101 = .ok (.bipush 7, 2) := by decide +kernel
theorem dX8_fillSchedule_103 : decode cX8_fillSchedule 103 = .ok (.invokestatic 58, 3) := by decide +kernel
theorem dX8_fillSchedule_106 : decode cX8_fillSchedule 106 = .ok (.iload 5, 2) := by decide +kernel
theorem dX8_fillSchedule_108 : decode cX8_fillSchedule 108 = .ok (.bipush 18, 2) := by decide +kernel
theorem dX8_fillSchedule_110 : decode cX8_fillSchedule 110 = .ok (.invokestatic 58, 3) := by decide +kernel
theorem dX8_fillSchedule_113 : decode cX8_fillSchedule 113 = .ok (.ixor, 1) := by decide +kernel
theorem dX8_fillSchedule_114 : decode cX8_fillSchedule 114 = .ok (.iload 5, 2) := by decide +kernel
theorem dX8_fillSchedule_116 : decode cX8_fillSchedule 116 = .ok (.iconst 3, 1) := by decide +kernel
theorem dX8_fillSchedule_117 : decode cX8_fillSchedule 117 = .ok (.iushr, 1) := by decide +kernel
theorem dX8_fillSchedule_118 : decode cX8_fillSchedule 118 = .ok (.ixor, 1) := by decide +kernel
theorem dX8_fillSchedule_119 : decode cX8_fillSchedule 119 = .ok (.istore 7, 2) := by decide +kernel
theorem dX8_fillSchedule_121 : decode cX8_fillSchedule 121 = .ok (.iload 6, 2) := by decide +kernel
theorem dX8_fillSchedule_123 : decode cX8_fillSchedule 123 = .ok (.bipush 17, 2) := by decide +kernel
theorem dX8_fillSchedule_125 : decode cX8_fillSchedule 125 = .ok (.invokestatic 58, 3) := by decide +kernel
theorem dX8_fillSchedule_128 : decode cX8_fillSchedule 128 = .ok (.iload 6, 2) := by decide +kernel
theorem dX8_fillSchedule_130 : decode cX8_fillSchedule 130 = .ok (.bipush 19, 2) := by decide +kernel
theorem dX8_fillSchedule_132 : decode cX8_fillSchedule 132 = .ok (.invokestatic 58, 3) := by decide +kernel
theorem dX8_fillSchedule_135 : decode cX8_fillSchedule 135 = .ok (.ixor, 1) := by decide +kernel
theorem dX8_fillSchedule_136 : decode cX8_fillSchedule 136 = .ok (.iload 6, 2) := by decide +kernel
theorem dX8_fillSchedule_138 : decode cX8_fillSchedule 138 = .ok (.bipush 10, 2) := by decide +kernel
theorem dX8_fillSchedule_140 : decode cX8_fillSchedule 140 = .ok (.iushr, 1) := by decide +kernel
theorem dX8_fillSchedule_141 : decode cX8_fillSchedule 141 = .ok (.ixor, 1) := by decide +kernel
theorem dX8_fillSchedule_142 : decode cX8_fillSchedule 142 = .ok (.istore 8, 2) := by decide +kernel
theorem dX8_fillSchedule_144 : decode cX8_fillSchedule 144 = .ok (.aload_n 0, 1) := by decide +kernel
theorem dX8_fillSchedule_145 : decode cX8_fillSchedule 145 = .ok (.getfield 15, 3) := by decide +kernel
theorem dX8_fillSchedule_148 : decode cX8_fillSchedule 148 = .ok (.iload 4, 2) := by decide +kernel
theorem dX8_fillSchedule_150 : decode cX8_fillSchedule 150 = .ok (.iload 8, 2) := by decide +kernel
theorem dX8_fillSchedule_152 : decode cX8_fillSchedule 152 = .ok (.aload_n 0, 1) := by decide +kernel
theorem dX8_fillSchedule_153 : decode cX8_fillSchedule 153 = .ok (.getfield 15, 3) := by decide +kernel
theorem dX8_fillSchedule_156 : decode cX8_fillSchedule 156 = .ok (.iload 4, 2) := by decide +kernel
theorem dX8_fillSchedule_158 : decode cX8_fillSchedule 158 = .ok (.bipush 7, 2) := by decide +kernel
theorem dX8_fillSchedule_160 : decode cX8_fillSchedule 160 = .ok (.isub, 1) := by decide +kernel
theorem dX8_fillSchedule_161 : decode cX8_fillSchedule 161 = .ok (.iaload, 1) := by decide +kernel
theorem dX8_fillSchedule_162 : decode cX8_fillSchedule 162 = .ok (.iadd, 1) := by decide +kernel
theorem dX8_fillSchedule_163 : decode cX8_fillSchedule 163 = .ok (.iload 7, 2) := by decide +kernel
theorem dX8_fillSchedule_165 : decode cX8_fillSchedule 165 = .ok (.iadd, 1) := by decide +kernel
theorem dX8_fillSchedule_166 : decode cX8_fillSchedule 166 = .ok (.aload_n 0, 1) := by decide +kernel
theorem dX8_fillSchedule_167 : decode cX8_fillSchedule 167 = .ok (.getfield 15, 3) := by decide +kernel
theorem dX8_fillSchedule_170 : decode cX8_fillSchedule 170 = .ok (.iload 4, 2) := by decide +kernel
theorem dX8_fillSchedule_172 : decode cX8_fillSchedule 172 = .ok (.bipush 16, 2) := by decide +kernel
theorem dX8_fillSchedule_174 : decode cX8_fillSchedule 174 = .ok (.isub, 1) := by decide +kernel
theorem dX8_fillSchedule_175 : decode cX8_fillSchedule 175 = .ok (.iaload, 1) := by decide +kernel
theorem dX8_fillSchedule_176 : decode cX8_fillSchedule 176 = .ok (.iadd, 1) := by decide +kernel
theorem dX8_fillSchedule_177 : decode cX8_fillSchedule 177 = .ok (.iastore, 1) := by decide +kernel
theorem dX8_fillSchedule_178 : decode cX8_fillSchedule 178 = .ok (.iinc 4 1, 3) := by decide +kernel
theorem dX8_fillSchedule_181 : decode cX8_fillSchedule 181 = .ok (.goto (-112), 3) := by decide +kernel
theorem dX8_fillSchedule_184 : decode cX8_fillSchedule 184 = .ok (.return_, 1) := by decide +kernel
theorem dX8_padded_0 : decode cX8_padded 0 = .ok (.iload_n 1, 1) := by decide +kernel
theorem dX8_padded_1 : decode cX8_padded 1 = .ok (.aload_n 0, 1) := by decide +kernel
theorem dX8_padded_2 : decode cX8_padded 2 = .ok (.invokevirtual 36, 3) := by decide +kernel
theorem dX8_padded_5 : decode cX8_padded 5 = .ok (.if_icmp .ge 9, 3) := by decide +kernel
theorem dX8_padded_8 : decode cX8_padded 8 = .ok (.aload_n 0, 1) := by decide +kernel
theorem dX8_padded_9 : decode cX8_padded 9 = .ok (.iload_n 1, 1) := by decide +kernel
theorem dX8_padded_10 : decode cX8_padded 10 = .ok (.invokevirtual 62, 3) := by decide +kernel
theorem dX8_padded_13 : decode cX8_padded 13 = .ok (.ireturn, 1) := by decide +kernel
theorem dX8_padded_14 : decode cX8_padded 14 = .ok (.iload_n 1, 1) := by decide +kernel
theorem dX8_padded_15 : decode cX8_padded 15 = .ok (.aload_n 0, 1) := by decide +kernel
theorem dX8_padded_16 : decode cX8_padded 16 = .ok (.invokevirtual 36, 3) := by decide +kernel
theorem dX8_padded_19 : decode cX8_padded 19 = .ok (.if_icmp .ne 7, 3) := by decide +kernel
theorem dX8_padded_22 : decode cX8_padded 22 = .ok (.sipush 128, 3) := by decide +kernel
theorem dX8_padded_25 : decode cX8_padded 25 = .ok (.ireturn, 1) := by decide +kernel
theorem dX8_padded_26 : decode cX8_padded 26 = .ok (.iload_n 1, 1) := by decide +kernel
theorem dX8_padded_27 : decode cX8_padded 27 = .ok (.iload_n 2, 1) := by decide +kernel
theorem dX8_padded_28 : decode cX8_padded 28 = .ok (.iconst 4, 1) := by decide +kernel
theorem dX8_padded_29 : decode cX8_padded 29 = .ok (.isub, 1) := by decide +kernel
theorem dX8_padded_30 : decode cX8_padded 30 = .ok (.if_icmp .ge 7, 3) := by decide +kernel
theorem dX8_padded_33 : decode cX8_padded 33 = .ok (.iconst 0, 1) := by decide +kernel
theorem dX8_padded_34 : decode cX8_padded 34 = .ok (.goto 23, 3) := by decide +kernel
theorem dX8_padded_37 : decode cX8_padded 37 = .ok (.aload_n 0, 1) := by decide +kernel
theorem dX8_padded_38 : decode cX8_padded 38 = .ok (.invokevirtual 36, 3) := by decide +kernel
theorem dX8_padded_41 : decode cX8_padded 41 = .ok (.bipush 8, 2) := by decide +kernel
theorem dX8_padded_43 : decode cX8_padded 43 = .ok (.imul, 1) := by decide +kernel
theorem dX8_padded_44 : decode cX8_padded 44 = .ok (.iload_n 2, 1) := by decide +kernel
theorem dX8_padded_45 : decode cX8_padded 45 = .ok (.iconst 1, 1) := by decide +kernel
theorem dX8_padded_46 : decode cX8_padded 46 = .ok (.isub, 1) := by decide +kernel
theorem dX8_padded_47 : decode cX8_padded 47 = .ok (.iload_n 1, 1) := by decide +kernel
theorem dX8_padded_48 : decode cX8_padded 48 = .ok (.isub, 1) := by decide +kernel
theorem dX8_padded_49 : decode cX8_padded 49 = .ok (.bipush 8, 2) := by decide +kernel
theorem dX8_padded_51 : decode cX8_padded 51 = .ok (.imul, 1) := by decide +kernel
theorem dX8_padded_52 : decode cX8_padded 52 = .ok (.iushr, 1) := by decide +kernel
theorem dX8_padded_53 : decode cX8_padded 53 = .ok (.sipush 255, 3) := by decide +kernel
theorem dX8_padded_56 : decode cX8_padded 56 = .ok (.iand, 1) := by decide +kernel
theorem dX8_padded_57 : decode cX8_padded 57 = .ok (.ireturn, 1) := by decide +kernel
theorem dX8_mixBlock_0 : decode cX8_mixBlock 0 = .ok (.aload_n 0, 1) := by decide +kernel
theorem dX8_mixBlock_1 : decode cX8_mixBlock 1 = .ok (.getfield 9, 3) := by decide +kernel
theorem dX8_mixBlock_4 : decode cX8_mixBlock 4 = .ok (.iconst 0, 1) := by decide +kernel
theorem dX8_mixBlock_5 : decode cX8_mixBlock 5 = .ok (.iaload, 1) := by decide +kernel
theorem dX8_mixBlock_6 : decode cX8_mixBlock 6 = .ok (.istore_n 1, 1) := by decide +kernel
theorem dX8_mixBlock_7 : decode cX8_mixBlock 7 = .ok (.aload_n 0, 1) := by decide +kernel
theorem dX8_mixBlock_8 : decode cX8_mixBlock 8 = .ok (.getfield 9, 3) := by decide +kernel
theorem dX8_mixBlock_11 : decode cX8_mixBlock 11 = .ok (.iconst 1, 1) := by decide +kernel
theorem dX8_mixBlock_12 : decode cX8_mixBlock 12 = .ok (.iaload, 1) := by decide +kernel
theorem dX8_mixBlock_13 : decode cX8_mixBlock 13 = .ok (.istore_n 2, 1) := by decide +kernel
theorem dX8_mixBlock_14 : decode cX8_mixBlock 14 = .ok (.aload_n 0, 1) := by decide +kernel
theorem dX8_mixBlock_15 : decode cX8_mixBlock 15 = .ok (.getfield 9, 3) := by decide +kernel
theorem dX8_mixBlock_18 : decode cX8_mixBlock 18 = .ok (.iconst 2, 1) := by decide +kernel
theorem dX8_mixBlock_19 : decode cX8_mixBlock 19 = .ok (.iaload, 1) := by decide +kernel
theorem dX8_mixBlock_20 : decode cX8_mixBlock 20 = .ok (.istore_n 3, 1) := by decide +kernel
theorem dX8_mixBlock_21 : decode cX8_mixBlock 21 = .ok (.aload_n 0, 1) := by decide +kernel
theorem dX8_mixBlock_22 : decode cX8_mixBlock 22 = .ok (.getfield 9, 3) := by decide +kernel
theorem dX8_mixBlock_25 : decode cX8_mixBlock 25 = .ok (.iconst 3, 1) := by decide +kernel
theorem dX8_mixBlock_26 : decode cX8_mixBlock 26 = .ok (.iaload, 1) := by decide +kernel
theorem dX8_mixBlock_27 : decode cX8_mixBlock 27 = .ok (.istore 4, 2) := by decide +kernel
theorem dX8_mixBlock_29 : decode cX8_mixBlock 29 = .ok (.aload_n 0, 1) := by decide +kernel
theorem dX8_mixBlock_30 : decode cX8_mixBlock 30 = .ok (.getfield 9, 3) := by decide +kernel
theorem dX8_mixBlock_33 : decode cX8_mixBlock 33 = .ok (.iconst 4, 1) := by decide +kernel
theorem dX8_mixBlock_34 : decode cX8_mixBlock 34 = .ok (.iaload, 1) := by decide +kernel
theorem dX8_mixBlock_35 : decode cX8_mixBlock 35 = .ok (.istore 5, 2) := by decide +kernel
theorem dX8_mixBlock_37 : decode cX8_mixBlock 37 = .ok (.aload_n 0, 1) := by decide +kernel
theorem dX8_mixBlock_38 : decode cX8_mixBlock 38 = .ok (.getfield 9, 3) := by decide +kernel
theorem dX8_mixBlock_41 : decode cX8_mixBlock 41 = .ok (.iconst 5, 1) := by decide +kernel
theorem dX8_mixBlock_42 : decode cX8_mixBlock 42 = .ok (.iaload, 1) := by decide +kernel
theorem dX8_mixBlock_43 : decode cX8_mixBlock 43 = .ok (.istore 6, 2) := by decide +kernel
theorem dX8_mixBlock_45 : decode cX8_mixBlock 45 = .ok (.aload_n 0, 1) := by decide +kernel
theorem dX8_mixBlock_46 : decode cX8_mixBlock 46 = .ok (.getfield 9, 3) := by decide +kernel
theorem dX8_mixBlock_49 : decode cX8_mixBlock 49 = .ok (.bipush 6, 2) := by decide +kernel
theorem dX8_mixBlock_51 : decode cX8_mixBlock 51 = .ok (.iaload, 1) := by decide +kernel
theorem dX8_mixBlock_52 : decode cX8_mixBlock 52 = .ok (.istore 7, 2) := by decide +kernel
theorem dX8_mixBlock_54 : decode cX8_mixBlock 54 = .ok (.aload_n 0, 1) := by decide +kernel
theorem dX8_mixBlock_55 : decode cX8_mixBlock 55 = .ok (.getfield 9, 3) := by decide +kernel
theorem dX8_mixBlock_58 : decode cX8_mixBlock 58 = .ok (.bipush 7, 2) := by decide +kernel
theorem dX8_mixBlock_60 : decode cX8_mixBlock 60 = .ok (.iaload, 1) := by decide +kernel
theorem dX8_mixBlock_61 : decode cX8_mixBlock 61 = .ok (.istore 8, 2) := by decide +kernel
theorem dX8_mixBlock_63 : decode cX8_mixBlock 63 = .ok (.iconst 0, 1) := by decide +kernel
theorem dX8_mixBlock_64 : decode cX8_mixBlock 64 = .ok (.istore 9, 2) := by decide +kernel
theorem dX8_mixBlock_66 : decode cX8_mixBlock 66 = .ok (.iload 9, 2) := by decide +kernel
theorem dX8_mixBlock_68 : decode cX8_mixBlock 68 = .ok (.bipush 64, 2) := by decide +kernel
theorem dX8_mixBlock_70 : decode cX8_mixBlock 70 = .ok (.if_icmp .ge 139, 3) := by decide +kernel
theorem dX8_mixBlock_73 : decode cX8_mixBlock 73 = .ok (.iload 5, 2) := by decide +kernel
theorem dX8_mixBlock_75 : decode cX8_mixBlock 75 = .ok (.bipush 6, 2) := by decide +kernel
theorem dX8_mixBlock_77 : decode cX8_mixBlock 77 = .ok (.invokestatic 58, 3) := by decide +kernel
theorem dX8_mixBlock_80 : decode cX8_mixBlock 80 = .ok (.iload 5, 2) := by decide +kernel
theorem dX8_mixBlock_82 : decode cX8_mixBlock 82 = .ok (.bipush 11, 2) := by decide +kernel
theorem dX8_mixBlock_84 : decode cX8_mixBlock 84 = .ok (.invokestatic 58, 3) := by decide +kernel
theorem dX8_mixBlock_87 : decode cX8_mixBlock 87 = .ok (.ixor, 1) := by decide +kernel
theorem dX8_mixBlock_88 : decode cX8_mixBlock 88 = .ok (.iload 5, 2) := by decide +kernel
theorem dX8_mixBlock_90 : decode cX8_mixBlock 90 = .ok (.bipush 25, 2) := by decide +kernel
theorem dX8_mixBlock_92 : decode cX8_mixBlock 92 = .ok (.invokestatic 58, 3) := by decide +kernel
theorem dX8_mixBlock_95 : decode cX8_mixBlock 95 = .ok (.ixor, 1) := by decide +kernel
theorem dX8_mixBlock_96 : decode cX8_mixBlock 96 = .ok (.istore 10, 2) := by decide +kernel
theorem dX8_mixBlock_98 : decode cX8_mixBlock 98 = .ok (.iload 8, 2) := by decide +kernel
theorem dX8_mixBlock_100 : decode cX8_mixBlock 100 = .ok (.iload 10, 2) := by decide +kernel
theorem dX8_mixBlock_102 : decode cX8_mixBlock 102 = .ok (.iadd, 1) := by decide +kernel
theorem dX8_mixBlock_103 : decode cX8_mixBlock 103 = .ok (.iload 5, 2) := by decide +kernel
theorem dX8_mixBlock_105 : decode cX8_mixBlock 105 = .ok (.iload 6, 2) := by decide +kernel
theorem dX8_mixBlock_107 : decode cX8_mixBlock 107 = .ok (.iand, 1) := by decide +kernel
theorem dX8_mixBlock_108 : decode cX8_mixBlock 108 = .ok (.iload 5, 2) := by decide +kernel
theorem dX8_mixBlock_110 : decode cX8_mixBlock 110 = .ok (.iconst (-1), 1) := by decide +kernel
theorem dX8_mixBlock_111 : decode cX8_mixBlock 111 = .ok (.ixor, 1) := by decide +kernel
theorem dX8_mixBlock_112 : decode cX8_mixBlock 112 = .ok (.iload 7, 2) := by decide +kernel
theorem dX8_mixBlock_114 : decode cX8_mixBlock 114 = .ok (.iand, 1) := by decide +kernel
theorem dX8_mixBlock_115 : decode cX8_mixBlock 115 = .ok (.ixor, 1) := by decide +kernel
theorem dX8_mixBlock_116 : decode cX8_mixBlock 116 = .ok (.iadd, 1) := by decide +kernel
theorem dX8_mixBlock_117 : decode cX8_mixBlock 117 = .ok (.getstatic 66, 3) := by decide +kernel
theorem dX8_mixBlock_120 : decode cX8_mixBlock 120 = .ok (.iload 9, 2) := by decide +kernel
theorem dX8_mixBlock_122 : decode cX8_mixBlock 122 = .ok (.iaload, 1) := by decide +kernel
theorem dX8_mixBlock_123 : decode cX8_mixBlock 123 = .ok (.iadd, 1) := by decide +kernel
theorem dX8_mixBlock_124 : decode cX8_mixBlock 124 = .ok (.aload_n 0, 1) := by decide +kernel
theorem dX8_mixBlock_125 : decode cX8_mixBlock 125 = .ok (.getfield 15, 3) := by decide +kernel
theorem dX8_mixBlock_128 : decode cX8_mixBlock 128 = .ok (.iload 9, 2) := by decide +kernel
theorem dX8_mixBlock_130 : decode cX8_mixBlock 130 = .ok (.iaload, 1) := by decide +kernel
theorem dX8_mixBlock_131 : decode cX8_mixBlock 131 = .ok (.iadd, 1) := by decide +kernel
theorem dX8_mixBlock_132 : decode cX8_mixBlock 132 = .ok (.istore 11, 2) := by decide +kernel
theorem dX8_mixBlock_134 : decode cX8_mixBlock 134 = .ok (.iload_n 1, 1) := by decide +kernel
theorem dX8_mixBlock_135 : decode cX8_mixBlock 135 = .ok (.iconst 2, 1) := by decide +kernel
theorem dX8_mixBlock_136 : decode cX8_mixBlock 136 = .ok (.invokestatic 58, 3) := by decide +kernel
theorem dX8_mixBlock_139 : decode cX8_mixBlock 139 = .ok (.iload_n 1, 1) := by decide +kernel
theorem dX8_mixBlock_140 : decode cX8_mixBlock 140 = .ok (.bipush 13, 2) := by decide +kernel
theorem dX8_mixBlock_142 : decode cX8_mixBlock 142 = .ok (.invokestatic 58, 3) := by decide +kernel
theorem dX8_mixBlock_145 : decode cX8_mixBlock 145 = .ok (.ixor, 1) := by decide +kernel
theorem dX8_mixBlock_146 : decode cX8_mixBlock 146 = .ok (.iload_n 1, 1) := by decide +kernel
theorem dX8_mixBlock_147 : decode cX8_mixBlock 147 = .ok (.bipush 22, 2) := by decide +kernel
theorem dX8_mixBlock_149 : decode cX8_mixBlock 149 = .ok (.invokestatic 58, 3) := by decide +kernel
theorem dX8_mixBlock_152 : decode cX8_mixBlock 152 = .ok (.ixor, 1) := by decide +kernel
theorem dX8_mixBlock_153 : decode cX8_mixBlock 153 = .ok (.istore 12, 2) := by decide +kernel
theorem dX8_mixBlock_155 : decode cX8_mixBlock 155 = .ok (.iload 12, 2) := by decide +kernel
theorem dX8_mixBlock_157 : decode cX8_mixBlock 157 = .ok (.iload_n 1, 1) := by decide +kernel
theorem dX8_mixBlock_158 : decode cX8_mixBlock 158 = .ok (.iload_n 2, 1) := by decide +kernel
theorem dX8_mixBlock_159 : decode cX8_mixBlock 159 = .ok (.iand, 1) := by decide +kernel
theorem dX8_mixBlock_160 : decode cX8_mixBlock 160 = .ok (.iload_n 1, 1) := by decide +kernel
theorem dX8_mixBlock_161 : decode cX8_mixBlock 161 = .ok (.iload_n 3, 1) := by decide +kernel
theorem dX8_mixBlock_162 : decode cX8_mixBlock 162 = .ok (.iand, 1) := by decide +kernel
theorem dX8_mixBlock_163 : decode cX8_mixBlock 163 = .ok (.ixor, 1) := by decide +kernel
theorem dX8_mixBlock_164 : decode cX8_mixBlock 164 = .ok (.iload_n 2, 1) := by decide +kernel
theorem dX8_mixBlock_165 : decode cX8_mixBlock 165 = .ok (.iload_n 3, 1) := by decide +kernel
theorem dX8_mixBlock_166 : decode cX8_mixBlock 166 = .ok (.iand, 1) := by decide +kernel
theorem dX8_mixBlock_167 : decode cX8_mixBlock 167 = .ok (.ixor, 1) := by decide +kernel
theorem dX8_mixBlock_168 : decode cX8_mixBlock 168 = .ok (.iadd, 1) := by decide +kernel
theorem dX8_mixBlock_169 : decode cX8_mixBlock 169 = .ok (.istore 13, 2) := by decide +kernel
theorem dX8_mixBlock_171 : decode cX8_mixBlock 171 = .ok (.iload 7, 2) := by decide +kernel
theorem dX8_mixBlock_173 : decode cX8_mixBlock 173 = .ok (.istore 8, 2) := by decide +kernel
theorem dX8_mixBlock_175 : decode cX8_mixBlock 175 = .ok (.iload 6, 2) := by decide +kernel
theorem dX8_mixBlock_177 : decode cX8_mixBlock 177 = .ok (.istore 7, 2) := by decide +kernel
theorem dX8_mixBlock_179 : decode cX8_mixBlock 179 = .ok (.iload 5, 2) := by decide +kernel
theorem dX8_mixBlock_181 : decode cX8_mixBlock 181 = .ok (.istore 6, 2) := by decide +kernel
theorem dX8_mixBlock_183 : decode cX8_mixBlock 183 = .ok (.iload 4, 2) := by decide +kernel
theorem dX8_mixBlock_185 : decode cX8_mixBlock 185 = .ok (.iload 11, 2) := by decide +kernel
theorem dX8_mixBlock_187 : decode cX8_mixBlock 187 = .ok (.iadd, 1) := by decide +kernel
theorem dX8_mixBlock_188 : decode cX8_mixBlock 188 = .ok (.istore 5, 2) := by decide +kernel
theorem dX8_mixBlock_190 : decode cX8_mixBlock 190 = .ok (.iload_n 3, 1) := by decide +kernel
theorem dX8_mixBlock_191 : decode cX8_mixBlock 191 = .ok (.istore 4, 2) := by decide +kernel
theorem dX8_mixBlock_193 : decode cX8_mixBlock 193 = .ok (.iload_n 2, 1) := by decide +kernel
theorem dX8_mixBlock_194 : decode cX8_mixBlock 194 = .ok (.istore_n 3, 1) := by decide +kernel
theorem dX8_mixBlock_195 : decode cX8_mixBlock 195 = .ok (.iload_n 1, 1) := by decide +kernel
theorem dX8_mixBlock_196 : decode cX8_mixBlock 196 = .ok (.istore_n 2, 1) := by decide +kernel
theorem dX8_mixBlock_197 : decode cX8_mixBlock 197 = .ok (.iload 11, 2) := by decide +kernel
theorem dX8_mixBlock_199 : decode cX8_mixBlock 199 = .ok (.iload 13, 2) := by decide +kernel
theorem dX8_mixBlock_201 : decode cX8_mixBlock 201 = .ok (.iadd, 1) := by decide +kernel
theorem dX8_mixBlock_202 : decode cX8_mixBlock 202 = .ok (.istore_n 1, 1) := by decide +kernel
theorem dX8_mixBlock_203 : decode cX8_mixBlock 203 = .ok (.iinc 9 1, 3) := by decide +kernel
theorem dX8_mixBlock_206 : decode cX8_mixBlock 206 = .ok (.goto (-140), 3) := by decide +kernel
theorem dX8_mixBlock_209 : decode cX8_mixBlock 209 = .ok (.aload_n 0, 1) := by decide +kernel
theorem dX8_mixBlock_210 : decode cX8_mixBlock 210 = .ok (.getfield 9, 3) := by decide +kernel
theorem dX8_mixBlock_213 : decode cX8_mixBlock 213 = .ok (.iconst 0, 1) := by decide +kernel
theorem dX8_mixBlock_214 : decode cX8_mixBlock 214 = .ok (.dup2, 1) := by decide +kernel
theorem dX8_mixBlock_215 : decode cX8_mixBlock 215 = .ok (.iaload, 1) := by decide +kernel
theorem dX8_mixBlock_216 : decode cX8_mixBlock 216 = .ok (.iload_n 1, 1) := by decide +kernel
theorem dX8_mixBlock_217 : decode cX8_mixBlock 217 = .ok (.iadd, 1) := by decide +kernel
theorem dX8_mixBlock_218 : decode cX8_mixBlock 218 = .ok (.iastore, 1) := by decide +kernel
theorem dX8_mixBlock_219 : decode cX8_mixBlock 219 = .ok (.aload_n 0, 1) := by decide +kernel
theorem dX8_mixBlock_220 : decode cX8_mixBlock 220 = .ok (.getfield 9, 3) := by decide +kernel
theorem dX8_mixBlock_223 : decode cX8_mixBlock 223 = .ok (.iconst 1, 1) := by decide +kernel
theorem dX8_mixBlock_224 : decode cX8_mixBlock 224 = .ok (.dup2, 1) := by decide +kernel
theorem dX8_mixBlock_225 : decode cX8_mixBlock 225 = .ok (.iaload, 1) := by decide +kernel
theorem dX8_mixBlock_226 : decode cX8_mixBlock 226 = .ok (.iload_n 2, 1) := by decide +kernel
theorem dX8_mixBlock_227 : decode cX8_mixBlock 227 = .ok (.iadd, 1) := by decide +kernel
theorem dX8_mixBlock_228 : decode cX8_mixBlock 228 = .ok (.iastore, 1) := by decide +kernel
theorem dX8_mixBlock_229 : decode cX8_mixBlock 229 = .ok (.aload_n 0, 1) := by decide +kernel
theorem dX8_mixBlock_230 : decode cX8_mixBlock 230 = .ok (.getfield 9, 3) := by decide +kernel
theorem dX8_mixBlock_233 : decode cX8_mixBlock 233 = .ok (.iconst 2, 1) := by decide +kernel
theorem dX8_mixBlock_234 : decode cX8_mixBlock 234 = .ok (.dup2, 1) := by decide +kernel
theorem dX8_mixBlock_235 : decode cX8_mixBlock 235 = .ok (.iaload, 1) := by decide +kernel
theorem dX8_mixBlock_236 : decode cX8_mixBlock 236 = .ok (.iload_n 3, 1) := by decide +kernel
theorem dX8_mixBlock_237 : decode cX8_mixBlock 237 = .ok (.iadd, 1) := by decide +kernel
theorem dX8_mixBlock_238 : decode cX8_mixBlock 238 = .ok (.iastore, 1) := by decide +kernel
theorem dX8_mixBlock_239 : decode cX8_mixBlock 239 = .ok (.aload_n 0, 1) := by decide +kernel
theorem dX8_mixBlock_240 : decode cX8_mixBlock 240 = .ok (.getfield 9, 3) := by decide +kernel
theorem dX8_mixBlock_243 : decode cX8_mixBlock 243 = .ok (.iconst 3, 1) := by decide +kernel
theorem dX8_mixBlock_244 : decode cX8_mixBlock 244 = .ok (.dup2, 1) := by decide +kernel
theorem dX8_mixBlock_245 : decode cX8_mixBlock 245 = .ok (.iaload, 1) := by decide +kernel
theorem dX8_mixBlock_246 : decode cX8_mixBlock 246 = .ok (.iload 4, 2) := by decide +kernel
theorem dX8_mixBlock_248 : decode cX8_mixBlock 248 = .ok (.iadd, 1) := by decide +kernel
theorem dX8_mixBlock_249 : decode cX8_mixBlock 249 = .ok (.iastore, 1) := by decide +kernel
theorem dX8_mixBlock_250 : decode cX8_mixBlock 250 = .ok (.aload_n 0, 1) := by decide +kernel
theorem dX8_mixBlock_251 : decode cX8_mixBlock 251 = .ok (.getfield 9, 3) := by decide +kernel
theorem dX8_mixBlock_254 : decode cX8_mixBlock 254 = .ok (.iconst 4, 1) := by decide +kernel
theorem dX8_mixBlock_255 : decode cX8_mixBlock 255 = .ok (.dup2, 1) := by decide +kernel
theorem dX8_mixBlock_256 : decode cX8_mixBlock 256 = .ok (.iaload, 1) := by decide +kernel
theorem dX8_mixBlock_257 : decode cX8_mixBlock 257 = .ok (.iload 5, 2) := by decide +kernel
theorem dX8_mixBlock_259 : decode cX8_mixBlock 259 = .ok (.iadd, 1) := by decide +kernel
theorem dX8_mixBlock_260 : decode cX8_mixBlock 260 = .ok (.iastore, 1) := by decide +kernel
theorem dX8_mixBlock_261 : decode cX8_mixBlock 261 = .ok (.aload_n 0, 1) := by decide +kernel
theorem dX8_mixBlock_262 : decode cX8_mixBlock 262 = .ok (.getfield 9, 3) := by decide +kernel
theorem dX8_mixBlock_265 : decode cX8_mixBlock 265 = .ok (.iconst 5, 1) := by decide +kernel
theorem dX8_mixBlock_266 : decode cX8_mixBlock 266 = .ok (.dup2, 1) := by decide +kernel
theorem dX8_mixBlock_267 : decode cX8_mixBlock 267 = .ok (.iaload, 1) := by decide +kernel
theorem dX8_mixBlock_268 : decode cX8_mixBlock 268 = .ok (.iload 6, 2) := by decide +kernel
theorem dX8_mixBlock_270 : decode cX8_mixBlock 270 = .ok (.iadd, 1) := by decide +kernel
theorem dX8_mixBlock_271 : decode cX8_mixBlock 271 = .ok (.iastore, 1) := by decide +kernel
theorem dX8_mixBlock_272 : decode cX8_mixBlock 272 = .ok (.aload_n 0, 1) := by decide +kernel
theorem dX8_mixBlock_273 : decode cX8_mixBlock 273 = .ok (.getfield 9, 3) := by decide +kernel
theorem dX8_mixBlock_276 : decode cX8_mixBlock 276 = .ok (.bipush 6, 2) := by decide +kernel
theorem dX8_mixBlock_278 : decode cX8_mixBlock 278 = .ok (.dup2, 1) := by decide +kernel
theorem dX8_mixBlock_279 : decode cX8_mixBlock 279 = .ok (.iaload, 1) := by decide +kernel
theorem dX8_mixBlock_280 : decode cX8_mixBlock 280 = .ok (.iload 7, 2) := by decide +kernel
theorem dX8_mixBlock_282 : decode cX8_mixBlock 282 = .ok (.iadd, 1) := by decide +kernel
theorem dX8_mixBlock_283 : decode cX8_mixBlock 283 = .ok (.iastore, 1) := by decide +kernel
theorem dX8_mixBlock_284 : decode cX8_mixBlock 284 = .ok (.aload_n 0, 1) := by decide +kernel
theorem dX8_mixBlock_285 : decode cX8_mixBlock 285 = .ok (.getfield 9, 3) := by decide +kernel
theorem dX8_mixBlock_288 : decode cX8_mixBlock 288 = .ok (.bipush 7, 2) := by decide +kernel
theorem dX8_mixBlock_290 : decode cX8_mixBlock 290 = .ok (.dup2, 1) := by decide +kernel
theorem dX8_mixBlock_291 : decode cX8_mixBlock 291 = .ok (.iaload, 1) := by decide +kernel
theorem dX8_mixBlock_292 : decode cX8_mixBlock 292 = .ok (.iload 8, 2) := by decide +kernel
theorem dX8_mixBlock_294 : decode cX8_mixBlock 294 = .ok (.iadd, 1) := by decide +kernel
theorem dX8_mixBlock_295 : decode cX8_mixBlock 295 = .ok (.iastore, 1) := by decide +kernel
theorem dX8_mixBlock_296 : decode cX8_mixBlock 296 = .ok (.return_, 1) := by decide +kernel
theorem dX8_rotate_0 : decode cX8_rotate 0 = .ok (.iload_n 0, 1) := by decide +kernel
theorem dX8_rotate_1 : decode cX8_rotate 1 = .ok (.iload_n 1, 1) := by decide +kernel
theorem dX8_rotate_2 : decode cX8_rotate 2 = .ok (.iushr, 1) := by decide +kernel
theorem dX8_rotate_3 : decode cX8_rotate 3 = .ok (.iload_n 0, 1) := by decide +kernel
theorem dX8_rotate_4 : decode cX8_rotate 4 = .ok (.bipush 32, 2) := by decide +kernel
theorem dX8_rotate_6 : decode cX8_rotate 6 = .ok (.iload_n 1, 1) := by decide +kernel
theorem dX8_rotate_7 : decode cX8_rotate 7 = .ok (.isub, 1) := by decide +kernel
theorem dX8_rotate_8 : decode cX8_rotate 8 = .ok (.ishl, 1) := by decide +kernel
theorem dX8_rotate_9 : decode cX8_rotate 9 = .ok (.ior, 1) := by decide +kernel
theorem dX8_rotate_10 : decode cX8_rotate 10 = .ok (.ireturn, 1) := by decide +kernel
theorem dX9_init_0 : decode cX9_init 0 = .ok (.aload_n 0, 1) := by decide +kernel
theorem dX9_init_1 : decode cX9_init 1 = .ok (.invokespecial 3, 3) := by decide +kernel
theorem dX9_init_4 : decode cX9_init 4 = .ok (.aload_n 0, 1) := by decide +kernel
theorem dX9_init_5 : decode cX9_init 5 = .ok (.iconst 0, 1) := by decide +kernel
theorem dX9_init_6 : decode cX9_init 6 = .ok (.putfield 9, 3) := by decide +kernel
theorem dX9_init_9 : decode cX9_init 9 = .ok (.aload_n 0, 1) := by decide +kernel
theorem dX9_init_10 : decode cX9_init 10 = .ok (.iconst 0, 1) := by decide +kernel
theorem dX9_init_11 : decode cX9_init 11 = .ok (.putfield 15, 3) := by decide +kernel
theorem dX9_init_14 : decode cX9_init 14 = .ok (.aload_n 0, 1) := by decide +kernel
theorem dX9_init_15 : decode cX9_init 15 = .ok (.iload_n 1, 1) := by decide +kernel
theorem dX9_init_16 : decode cX9_init 16 = .ok (.iconst 0, 1) := by decide +kernel
theorem dX9_init_17 : decode cX9_init 17 = .ok (.invokestatic 18, 3) := by decide +kernel
theorem dX9_init_20 : decode cX9_init 20 = .ok (.newarray .byte, 2) := by decide +kernel
theorem dX9_init_22 : decode cX9_init 22 = .ok (.putfield 24, 3) := by decide +kernel
theorem dX9_init_25 : decode cX9_init 25 = .ok (.return_, 1) := by decide +kernel
theorem dX9_init__0 : decode cX9_init_ 0 = .ok (.aload_n 0, 1) := by decide +kernel
theorem dX9_init__1 : decode cX9_init_ 1 = .ok (.invokespecial 3, 3) := by decide +kernel
theorem dX9_init__4 : decode cX9_init_ 4 = .ok (.aload_n 0, 1) := by decide +kernel
theorem dX9_init__5 : decode cX9_init_ 5 = .ok (.iconst 0, 1) := by decide +kernel
theorem dX9_init__6 : decode cX9_init_ 6 = .ok (.putfield 9, 3) := by decide +kernel
theorem dX9_init__9 : decode cX9_init_ 9 = .ok (.aload_n 0, 1) := by decide +kernel
theorem dX9_init__10 : decode cX9_init_ 10 = .ok (.iconst 0, 1) := by decide +kernel
theorem dX9_init__11 : decode cX9_init_ 11 = .ok (.putfield 15, 3) := by decide +kernel
theorem dX9_init__14 : decode cX9_init_ 14 = .ok (.aload_n 0, 1) := by decide +kernel
theorem dX9_init__15 : decode cX9_init_ 15 = .ok (.aload_n 1, 1) := by decide +kernel
theorem dX9_init__16 : decode cX9_init_ 16 = .ok (.getfield 24, 3) := by decide +kernel
theorem dX9_init__19 : decode cX9_init_ 19 = .ok (.putfield 24, 3) := by decide +kernel
theorem dX9_init__22 : decode cX9_init_ 22 = .ok (.return_, 1) := by decide +kernel
theorem dX9_size_0 : decode cX9_size 0 = .ok (.aload_n 0, 1) := by decide +kernel
theorem dX9_size_1 : decode cX9_size 1 = .ok (.getfield 15, 3) := by decide +kernel
theorem dX9_size_4 : decode cX9_size 4 = .ok (.ireturn, 1) := by decide +kernel
theorem dX9_at_0 : decode cX9_at 0 = .ok (.iload_n 1, 1) := by decide +kernel
theorem dX9_at_1 : decode cX9_at 1 = .ok (.ifCond .lt 25, 3) := by decide +kernel
theorem dX9_at_4 : decode cX9_at 4 = .ok (.iload_n 1, 1) := by decide +kernel
theorem dX9_at_5 : decode cX9_at 5 = .ok (.aload_n 0, 1) := by decide +kernel
theorem dX9_at_6 : decode cX9_at 6 = .ok (.getfield 15, 3) := by decide +kernel
theorem dX9_at_9 : decode cX9_at 9 = .ok (.if_icmp .ge 17, 3) := by decide +kernel
theorem dX9_at_12 : decode cX9_at 12 = .ok (.aload_n 0, 1) := by decide +kernel
theorem dX9_at_13 : decode cX9_at 13 = .ok (.getfield 9, 3) := by decide +kernel
theorem dX9_at_16 : decode cX9_at 16 = .ok (.iload_n 1, 1) := by decide +kernel
theorem dX9_at_17 : decode cX9_at 17 = .ok (.iadd, 1) := by decide +kernel
theorem dX9_at_18 : decode cX9_at 18 = .ok (.aload_n 0, 1) := by decide +kernel
theorem dX9_at_19 : decode cX9_at 19 = .ok (.getfield 24, 3) := by decide +kernel
theorem dX9_at_22 : decode cX9_at 22 = .ok (.arraylength, 1) := by decide +kernel
theorem dX9_at_23 : decode cX9_at 23 = .ok (.if_icmp .lt 5, 3) := by decide +kernel
theorem dX9_at_26 : decode cX9_at 26 = .ok (.iconst (-1), 1) := by decide +kernel
theorem dX9_at_27 : decode cX9_at 27 = .ok (.ireturn, 1) := by decide +kernel
theorem dX9_at_28 : decode cX9_at 28 = .ok (.aload_n 0, 1) := by decide +kernel
theorem dX9_at_29 : decode cX9_at 29 = .ok (.getfield 24, 3) := by decide +kernel
theorem dX9_at_32 : decode cX9_at 32 = .ok (.aload_n 0, 1) := by decide +kernel
theorem dX9_at_33 : decode cX9_at 33 = .ok (.getfield 9, 3) := by decide +kernel
theorem dX9_at_36 : decode cX9_at 36 = .ok (.iload_n 1, 1) := by decide +kernel
theorem dX9_at_37 : decode cX9_at 37 = .ok (.iadd, 1) := by decide +kernel
theorem dX9_at_38 : decode cX9_at 38 = .ok (.baload, 1) := by decide +kernel
theorem dX9_at_39 : decode cX9_at 39 = .ok (.sipush 255, 3) := by decide +kernel
theorem dX9_at_42 : decode cX9_at 42 = .ok (.iand, 1) := by decide +kernel
theorem dX9_at_43 : decode cX9_at 43 = .ok (.ireturn, 1) := by decide +kernel
theorem dX9_clear_0 : decode cX9_clear 0 = .ok (.aload_n 0, 1) := by decide +kernel
theorem dX9_clear_1 : decode cX9_clear 1 = .ok (.iconst 0, 1) := by decide +kernel
theorem dX9_clear_2 : decode cX9_clear 2 = .ok (.putfield 15, 3) := by decide +kernel
theorem dX9_clear_5 : decode cX9_clear 5 = .ok (.return_, 1) := by decide +kernel
theorem dX9_cutTo_0 : decode cX9_cutTo 0 = .ok (.iload_n 1, 1) := by decide +kernel
theorem dX9_cutTo_1 : decode cX9_cutTo 1 = .ok (.ifCond .lt 11, 3) := by decide +kernel
theorem dX9_cutTo_4 : decode cX9_cutTo 4 = .ok (.iload_n 1, 1) := by decide +kernel
theorem dX9_cutTo_5 : decode cX9_cutTo 5 = .ok (.aload_n 0, 1) := by decide +kernel
theorem dX9_cutTo_6 : decode cX9_cutTo 6 = .ok (.getfield 15, 3) := by decide +kernel
theorem dX9_cutTo_9 : decode cX9_cutTo 9 = .ok (.if_icmp .le 5, 3) := by decide +kernel
theorem dX9_cutTo_12 : decode cX9_cutTo 12 = .ok (.iconst 0, 1) := by decide +kernel
theorem dX9_cutTo_13 : decode cX9_cutTo 13 = .ok (.ireturn, 1) := by decide +kernel
theorem dX9_cutTo_14 : decode cX9_cutTo 14 = .ok (.aload_n 0, 1) := by decide +kernel
theorem dX9_cutTo_15 : decode cX9_cutTo 15 = .ok (.iload_n 1, 1) := by decide +kernel
theorem dX9_cutTo_16 : decode cX9_cutTo 16 = .ok (.putfield 15, 3) := by decide +kernel
theorem dX9_cutTo_19 : decode cX9_cutTo 19 = .ok (.iconst 1, 1) := by decide +kernel
theorem dX9_cutTo_20 : decode cX9_cutTo 20 = .ok (.ireturn, 1) := by decide +kernel
theorem dX9_showEnd_0 : decode cX9_showEnd 0 = .ok (.aload_n 0, 1) := by decide +kernel
theorem dX9_showEnd_1 : decode cX9_showEnd 1 = .ok (.iload_n 2, 1) := by decide +kernel
theorem dX9_showEnd_2 : decode cX9_showEnd 2 = .ok (.putfield 9, 3) := by decide +kernel
theorem dX9_showEnd_5 : decode cX9_showEnd 5 = .ok (.aload_n 0, 1) := by decide +kernel
theorem dX9_showEnd_6 : decode cX9_showEnd 6 = .ok (.aload_n 1, 1) := by decide +kernel
theorem dX9_showEnd_7 : decode cX9_showEnd 7 = .ok (.getfield 15, 3) := by decide +kernel
theorem dX9_showEnd_10 : decode cX9_showEnd 10 = .ok (.iload_n 2, 1) := by decide +kernel
theorem dX9_showEnd_11 : decode cX9_showEnd 11 = .ok (.isub, 1) := by decide +kernel
theorem dX9_showEnd_12 : decode cX9_showEnd 12 = .ok (.putfield 15, 3) := by decide +kernel
theorem dX9_showEnd_15 : decode cX9_showEnd 15 = .ok (.return_, 1) := by decide +kernel
theorem dX9_add_0 : decode cX9_add 0 = .ok (.aload_n 0, 1) := by decide +kernel
theorem dX9_add_1 : decode cX9_add 1 = .ok (.getfield 9, 3) := by decide +kernel
theorem dX9_add_4 : decode cX9_add 4 = .ok (.aload_n 0, 1) := by decide +kernel
theorem dX9_add_5 : decode cX9_add 5 = .ok (.getfield 15, 3) := by decide +kernel
theorem dX9_add_8 : decode cX9_add 8 = .ok (.iadd, 1) := by decide +kernel
theorem dX9_add_9 : decode cX9_add 9 = .ok (.aload_n 0, 1) := by decide +kernel
theorem dX9_add_10 : decode cX9_add 10 = .ok (.getfield 24, 3) := by decide +kernel
theorem dX9_add_13 : decode cX9_add 13 = .ok (.arraylength, 1) := by decide +kernel
theorem dX9_add_14 : decode cX9_add 14 = .ok (.if_icmp .ge 29, 3) := by decide +kernel
theorem dX9_add_17 : decode cX9_add 17 = .ok (.aload_n 0, 1) := by decide +kernel
theorem dX9_add_18 : decode cX9_add 18 = .ok (.getfield 24, 3) := by decide +kernel
theorem dX9_add_21 : decode cX9_add 21 = .ok (.aload_n 0, 1) := by decide +kernel
theorem dX9_add_22 : decode cX9_add 22 = .ok (.getfield 9, 3) := by decide +kernel
theorem dX9_add_25 : decode cX9_add 25 = .ok (.aload_n 0, 1) := by decide +kernel
theorem dX9_add_26 : decode cX9_add 26 = .ok (.getfield 15, 3) := by decide +kernel
theorem dX9_add_29 : decode cX9_add 29 = .ok (.iadd, 1) := by decide +kernel
theorem dX9_add_30 : decode cX9_add 30 = .ok (.iload_n 1, 1) := by decide +kernel
theorem dX9_add_31 : decode cX9_add 31 = .ok (.i2b, 1) := by decide +kernel
theorem dX9_add_32 : decode cX9_add 32 = .ok (.bastore, 1) := by decide +kernel
theorem dX9_add_33 : decode cX9_add 33 = .ok (.aload_n 0, 1) := by decide +kernel
theorem dX9_add_34 : decode cX9_add 34 = .ok (.dup, 1) := by decide +kernel
theorem dX9_add_35 : decode cX9_add 35 = .ok (.getfield 15, 3) := by decide +kernel
theorem dX9_add_38 : decode cX9_add 38 = .ok (.iconst 1, 1) := by decide +kernel
theorem dX9_add_39 : decode cX9_add 39 = .ok (.iadd, 1) := by decide +kernel
theorem dX9_add_40 : decode cX9_add 40 = .ok (.putfield 15, 3) := by decide +kernel
theorem dX9_add_43 : decode cX9_add 43 = .ok (.return_, 1) := by decide +kernel
theorem dX9_addInt_0 : decode cX9_addInt 0 = .ok (.aload_n 0, 1) := by decide +kernel
theorem dX9_addInt_1 : decode cX9_addInt 1 = .ok (.iload_n 1, 1) := by decide +kernel
theorem dX9_addInt_2 : decode cX9_addInt 2 = .ok (.bipush 24, 2) := by decide +kernel
theorem dX9_addInt_4 : decode cX9_addInt 4 = .ok (.iushr, 1) := by decide +kernel
theorem dX9_addInt_5 : decode cX9_addInt 5 = .ok (.invokevirtual 28, 3) := by decide +kernel
theorem dX9_addInt_8 : decode cX9_addInt 8 = .ok (.aload_n 0, 1) := by decide +kernel
theorem dX9_addInt_9 : decode cX9_addInt 9 = .ok (.iload_n 1, 1) := by decide +kernel
theorem dX9_addInt_10 : decode cX9_addInt 10 = .ok (.bipush 16, 2) := by decide +kernel
theorem dX9_addInt_12 : decode cX9_addInt 12 = .ok (.iushr, 1) := by decide +kernel
theorem dX9_addInt_13 : decode cX9_addInt 13 = .ok (.invokevirtual 28, 3) := by decide +kernel
theorem dX9_addInt_16 : decode cX9_addInt 16 = .ok (.aload_n 0, 1) := by decide +kernel
theorem dX9_addInt_17 : decode cX9_addInt 17 = .ok (.iload_n 1, 1) := by decide +kernel
theorem dX9_addInt_18 : decode cX9_addInt 18 = .ok (.bipush 8, 2) := by decide +kernel
theorem dX9_addInt_20 : decode cX9_addInt 20 = .ok (.iushr, 1) := by decide +kernel
theorem dX9_addInt_21 : decode cX9_addInt 21 = .ok (.invokevirtual 28, 3) := by decide +kernel
theorem dX9_addInt_24 : decode cX9_addInt 24 = .ok (.aload_n 0, 1) := by decide +kernel
theorem dX9_addInt_25 : decode cX9_addInt 25 = .ok (.iload_n 1, 1) := by decide +kernel
theorem dX9_addInt_26 : decode cX9_addInt 26 = .ok (.invokevirtual 28, 3) := by decide +kernel
theorem dX9_addInt_29 : decode cX9_addInt 29 = .ok (.return_, 1) := by decide +kernel
theorem dX9_addPart_0 : decode cX9_addPart 0 = .ok (.iload_n 2, 1) := by decide +kernel
theorem dX9_addPart_1 : decode cX9_addPart 1 = .ok (.istore 4, 2) := by decide +kernel
theorem dX9_addPart_3 : decode cX9_addPart 3 = .ok (.iload 4, 2) := by decide +kernel
theorem dX9_addPart_5 : decode cX9_addPart 5 = .ok (.iload_n 2, 1) := by decide +kernel
theorem dX9_addPart_6 : decode cX9_addPart 6 = .ok (.iload_n 3, 1) := by decide +kernel
theorem dX9_addPart_7 : decode cX9_addPart 7 = .ok (.iadd, 1) := by decide +kernel
theorem dX9_addPart_8 : decode cX9_addPart 8 = .ok (.if_icmp .ge 28, 3) := by decide +kernel
theorem dX9_addPart_11 : decode cX9_addPart 11 = .ok (.iload 4, 2) := by decide +kernel
theorem dX9_addPart_13 : decode cX9_addPart 13 = .ok (.aload_n 1, 1) := by decide +kernel
theorem dX9_addPart_14 : decode cX9_addPart 14 = .ok (.getfield 15, 3) := by decide +kernel
theorem dX9_addPart_17 : decode cX9_addPart 17 = .ok (.if_icmp .ge 19, 3) := by decide +kernel
theorem dX9_addPart_20 : decode cX9_addPart 20 = .ok (.aload_n 0, 1) := by decide +kernel
theorem dX9_addPart_21 : decode cX9_addPart 21 = .ok (.aload_n 1, 1) := by decide +kernel
theorem dX9_addPart_22 : decode cX9_addPart 22 = .ok (.iload 4, 2) := by decide +kernel
theorem dX9_addPart_24 : decode cX9_addPart 24 = .ok (.invokevirtual 32, 3) := by decide +kernel
theorem dX9_addPart_27 : decode cX9_addPart 27 = .ok (.invokevirtual 28, 3) := by decide +kernel
theorem dX9_addPart_30 : decode cX9_addPart 30 = .ok (.iinc 4 1, 3) := by decide +kernel
theorem dX9_addPart_33 : decode cX9_addPart 33 = .ok (.goto (-30), 3) := by decide +kernel
theorem dX9_addPart_36 : decode cX9_addPart 36 = .ok (.return_, 1) := by decide +kernel
theorem dX9_addWord_0 : decode cX9_addWord 0 = .ok (.iconst 0, 1) := by decide +kernel
theorem dX9_addWord_1 : decode cX9_addWord 1 = .ok (.istore_n 2, 1) := by decide +kernel
theorem dX9_addWord_2 : decode cX9_addWord 2 = .ok (.iload_n 2, 1) := by decide +kernel
theorem dX9_addWord_3 : decode cX9_addWord 3 = .ok (.aload_n 1, 1) := by decide +kernel
theorem dX9_addWord_4 : decode cX9_addWord 4 = .ok (.invokevirtual 36, 3) := by decide +kernel
theorem dX9_addWord_7 : decode cX9_addWord 7 = .ok (.if_icmp .ge 18, 3) := by decide +kernel
theorem dX9_addWord_10 : decode cX9_addWord 10 = .ok (.aload_n 0, 1) := by decide +kernel
theorem dX9_addWord_11 : decode cX9_addWord 11 = .ok (.aload_n 1, 1) := by decide +kernel
theorem dX9_addWord_12 : decode cX9_addWord 12 = .ok (.iload_n 2, 1) := by decide +kernel
theorem dX9_addWord_13 : decode cX9_addWord 13 = .ok (.invokevirtual 42, 3) := by decide +kernel
theorem dX9_addWord_16 : decode cX9_addWord 16 = .ok (.invokevirtual 28, 3) := by decide +kernel
theorem dX9_addWord_19 : decode cX9_addWord 19 = .ok (.iinc 2 1, 3) := by decide +kernel
theorem dX9_addWord_22 : decode cX9_addWord 22 = .ok (.goto (-20), 3) := by decide +kernel
theorem dX9_addWord_25 : decode cX9_addWord 25 = .ok (.return_, 1) := by decide +kernel
theorem dX9_addNumber_0 : decode cX9_addNumber 0 = .ok (.ldc 46, 2) := by decide +kernel
theorem dX9_addNumber_2 : decode cX9_addNumber 2 = .ok (.istore_n 2, 1) := by decide +kernel
theorem dX9_addNumber_3 : decode cX9_addNumber 3 = .ok (.iload_n 2, 1) := by decide +kernel
theorem dX9_addNumber_4 : decode cX9_addNumber 4 = .ok (.ifCond .le 29, 3) := by decide +kernel
theorem dX9_addNumber_7 : decode cX9_addNumber 7 = .ok (.iload_n 1, 1) := by decide +kernel
theorem dX9_addNumber_8 : decode cX9_addNumber 8 = .ok (.iload_n 2, 1) := by decide +kernel
theorem dX9_addNumber_9 : decode cX9_addNumber 9 = .ok (.if_icmp .lt 16, 3) := by decide +kernel
theorem dX9_addNumber_12 : decode cX9_addNumber 12 = .ok (.aload_n 0, 1) := by decide +kernel
theorem dX9_addNumber_13 : decode cX9_addNumber 13 = .ok (.bipush 48, 2) := by decide +kernel
theorem dX9_addNumber_15 : decode cX9_addNumber 15 = .ok (.iload_n 1, 1) := by decide +kernel
theorem dX9_addNumber_16 : decode cX9_addNumber 16 = .ok (.iload_n 2, 1) := by decide +kernel
theorem dX9_addNumber_17 : decode cX9_addNumber 17 = .ok (.idiv, 1) := by decide +kernel
theorem dX9_addNumber_18 : decode cX9_addNumber 18 = .ok (.bipush 10, 2) := by decide +kernel
theorem dX9_addNumber_20 : decode cX9_addNumber 20 = .ok (.irem, 1) := by decide +kernel
theorem dX9_addNumber_21 : decode cX9_addNumber 21 = .ok (.iadd, 1) := by decide +kernel
theorem dX9_addNumber_22 : decode cX9_addNumber 22 = .ok (.invokevirtual 28, 3) := by decide +kernel
theorem dX9_addNumber_25 : decode cX9_addNumber 25 = .ok (.iload_n 2, 1) := by decide +kernel
theorem dX9_addNumber_26 : decode cX9_addNumber 26 = .ok (.bipush 10, 2) := by decide +kernel
theorem dX9_addNumber_28 : decode cX9_addNumber 28 = .ok (.idiv, 1) := by decide +kernel
theorem dX9_addNumber_29 : decode cX9_addNumber 29 = .ok (.istore_n 2, 1) := by decide +kernel
theorem dX9_addNumber_30 : decode cX9_addNumber 30 = .ok (.goto (-27), 3) := by decide +kernel
theorem dX9_addNumber_33 : decode cX9_addNumber 33 = .ok (.return_, 1) := by decide +kernel
theorem dX9_addEscaped_0 : decode cX9_addEscaped 0 = .ok (.iconst 0, 1) := by decide +kernel
theorem dX9_addEscaped_1 : decode cX9_addEscaped 1 = .ok (.istore_n 2, 1) := by decide +kernel
theorem dX9_addEscaped_2 : decode cX9_addEscaped 2 = .ok (.iload_n 2, 1) := by decide +kernel
theorem dX9_addEscaped_3 : decode cX9_addEscaped 3 = .ok (.aload_n 1, 1) := by decide +kernel
theorem dX9_addEscaped_4 : decode cX9_addEscaped 4 = .ok (.getfield 15, 3) := by decide +kernel
theorem dX9_addEscaped_7 : decode cX9_addEscaped 7 = .ok (.if_icmp .ge 64, 3) := by decide +kernel
theorem dX9_addEscaped_10 : decode cX9_addEscaped 10 = .ok (.aload_n 1, 1) := by decide +kernel
theorem dX9_addEscaped_11 : decode cX9_addEscaped 11 = .ok (.iload_n 2, 1) := by decide +kernel
theorem dX9_addEscaped_12 : decode cX9_addEscaped 12 = .ok (.invokevirtual 32, 3) := by decide +kernel
theorem dX9_addEscaped_15 : decode cX9_addEscaped 15 = .ok (.istore_n 3, 1) := by decide +kernel
theorem dX9_addEscaped_16 : decode cX9_addEscaped 16 = .ok (.iload_n 3, 1) := by decide +kernel
theorem dX9_addEscaped_17 : decode cX9_addEscaped 17 = .ok (.invokestatic 47, 3) := by decide +kernel
theorem dX9_addEscaped_20 : decode cX9_addEscaped 20 = .ok (.ifCond .eq 11, 3) := by decide +kernel
theorem dX9_addEscaped_23 : decode cX9_addEscaped 23 = .ok (.aload_n 0, 1) := by decide +kernel
theorem dX9_addEscaped_24 : decode cX9_addEscaped 24 = .ok (.iload_n 3, 1) := by decide +kernel
theorem dX9_addEscaped_25 : decode cX9_addEscaped 25 = .ok (.invokevirtual 28, 3) := by decide +kernel
theorem dX9_addEscaped_28 : decode cX9_addEscaped 28 = .ok (.goto 37, 3) := by decide +kernel
theorem dX9_addEscaped_31 : decode cX9_addEscaped 31 = .ok (.aload_n 0, 1) := by decide +kernel
theorem dX9_addEscaped_32 : decode cX9_addEscaped 32 = .ok (.bipush 37, 2) := by decide +kernel
theorem dX9_addEscaped_34 : decode cX9_addEscaped 34 = .ok (.invokevirtual 28, 3) := by decide +kernel
theorem dX9_addEscaped_37 : decode cX9_addEscaped 37 = .ok (.aload_n 0, 1) := by decide +kernel
theorem dX9_addEscaped_38 : decode cX9_addEscaped 38 = .ok (.ldc 51, 2) := by decide +kernel
theorem dX9_addEscaped_40 : decode cX9_addEscaped 40 = .ok (.iload_n 3, 1) := by decide +kernel
theorem dX9_addEscaped_41 : decode cX9_addEscaped 41 = .ok (.iconst 4, 1) := by decide +kernel
theorem dX9_addEscaped_42 : decode cX9_addEscaped 42 = .ok (.ishr, 1) := by decide +kernel
theorem dX9_addEscaped_43 : decode cX9_addEscaped 43 = .ok (.bipush 15, 2) := by decide +kernel
theorem dX9_addEscaped_45 : decode cX9_addEscaped 45 = .ok (.iand, 1) := by decide +kernel
theorem dX9_addEscaped_46 : decode cX9_addEscaped 46 = .ok (.invokevirtual 42, 3) := by decide +kernel
theorem dX9_addEscaped_49 : decode cX9_addEscaped 49 = .ok (.invokevirtual 28, 3) := by decide +kernel
theorem dX9_addEscaped_52 : decode cX9_addEscaped 52 = .ok (.aload_n 0, 1) := by decide +kernel
theorem dX9_addEscaped_53 : decode cX9_addEscaped 53 = .ok (.ldc 51, 2) := by decide +kernel
theorem dX9_addEscaped_55 : decode cX9_addEscaped 55 = .ok (.iload_n 3, 1) := by decide +kernel
theorem dX9_addEscaped_56 : decode cX9_addEscaped 56 = .ok (.bipush 15, 2) := by decide +kernel
theorem dX9_addEscaped_58 : decode cX9_addEscaped 58 = .ok (.iand, 1) := by decide +kernel
theorem dX9_addEscaped_59 : decode cX9_addEscaped 59 = .ok (.invokevirtual 42, 3) := by decide +kernel
theorem dX9_addEscaped_62 : decode cX9_addEscaped 62 = .ok (.invokevirtual 28, 3) := by decide +kernel
theorem dX9_addEscaped_65 : decode cX9_addEscaped 65 = .ok (.iinc 2 1, 3) := by decide +kernel
theorem dX9_addEscaped_68 : decode cX9_addEscaped 68 = .ok (.goto (-66), 3) := by decide +kernel
theorem dX9_addEscaped_71 : decode cX9_addEscaped 71 = .ok (.return_, 1) := by decide +kernel
theorem dX9_addBase64_0 : decode cX9_addBase64 0 = .ok (.aload_n 1, 1) := by decide +kernel
theorem dX9_addBase64_1 : decode cX9_addBase64 1 = .ok (.arraylength, 1) := by decide +kernel
theorem dX9_addBase64_2 : decode cX9_addBase64 2 = .ok (.bipush 32, 2) := by decide +kernel
theorem dX9_addBase64_4 : decode cX9_addBase64 4 = .ok (.imul, 1) := by decide +kernel
theorem dX9_addBase64_5 : decode cX9_addBase64 5 = .ok (.istore_n 2, 1) := by decide +kernel
theorem dX9_addBase64_6 : decode cX9_addBase64 6 = .ok (.iconst 0, 1) := by decide +kernel
theorem dX9_addBase64_7 : decode cX9_addBase64 7 = .ok (.istore_n 3, 1) := by decide +kernel
theorem dX9_addBase64_8 : decode cX9_addBase64 8 = .ok (.iload_n 3, 1) := by decide +kernel
theorem dX9_addBase64_9 : decode cX9_addBase64 9 = .ok (.iload_n 2, 1) := by decide +kernel
theorem dX9_addBase64_10 : decode cX9_addBase64 10 = .ok (.if_icmp .ge 85, 3) := by decide +kernel
theorem dX9_addBase64_13 : decode cX9_addBase64 13 = .ok (.iload_n 3, 1) := by decide +kernel
theorem dX9_addBase64_14 : decode cX9_addBase64 14 = .ok (.bipush 32, 2) := by decide +kernel
theorem dX9_addBase64_16 : decode cX9_addBase64 16 = .ok (.idiv, 1) := by decide +kernel
theorem dX9_addBase64_17 : decode cX9_addBase64 17 = .ok (.istore 4, 2) := by decide +kernel
theorem dX9_addBase64_19 : decode cX9_addBase64 19 = .ok (.aload_n 1, 1) := by decide +kernel
theorem dX9_addBase64_20 : decode cX9_addBase64 20 = .ok (.iload 4, 2) := by decide +kernel
theorem dX9_addBase64_22 : decode cX9_addBase64 22 = .ok (.iaload, 1) := by decide +kernel
theorem dX9_addBase64_23 : decode cX9_addBase64 23 = .ok (.i2l, 1) := by decide +kernel
theorem dX9_addBase64_24 : decode cX9_addBase64 24 = .ok (.ldc2_w 53, 3) := by decide +kernel
theorem dX9_addBase64_27 : decode cX9_addBase64 27 = .ok (.land, 1) := by decide +kernel
theorem dX9_addBase64_28 : decode cX9_addBase64 28 = .ok (.lstore 5, 2) := by decide +kernel
theorem dX9_addBase64_30 : decode cX9_addBase64 30 = .ok (.iload 4, 2) := by decide +kernel
theorem dX9_addBase64_32 : decode cX9_addBase64 32 = .ok (.iconst 1, 1) := by decide +kernel
theorem dX9_addBase64_33 : decode cX9_addBase64 33 = .ok (.iadd, 1) := by decide +kernel
theorem dX9_addBase64_34 : decode cX9_addBase64 34 = .ok (.aload_n 1, 1) := by decide +kernel
theorem dX9_addBase64_35 : decode cX9_addBase64 35 = .ok (.arraylength, 1) := by decide +kernel
theorem dX9_addBase64_36 : decode cX9_addBase64 36 = .ok (.if_icmp .ge 17, 3) := by decide +kernel
theorem dX9_addBase64_39 : decode cX9_addBase64 39 = .ok (.aload_n 1, 1) := by decide +kernel
theorem dX9_addBase64_40 : decode cX9_addBase64 40 = .ok (.iload 4, 2) := by decide +kernel
theorem dX9_addBase64_42 : decode cX9_addBase64 42 = .ok (.iconst 1, 1) := by decide +kernel
theorem dX9_addBase64_43 : decode cX9_addBase64 43 = .ok (.iadd, 1) := by decide +kernel
theorem dX9_addBase64_44 : decode cX9_addBase64 44 = .ok (.iaload, 1) := by decide +kernel
theorem dX9_addBase64_45 : decode cX9_addBase64 45 = .ok (.i2l, 1) := by decide +kernel
theorem dX9_addBase64_46 : decode cX9_addBase64 46 = .ok (.ldc2_w 53, 3) := by decide +kernel
theorem dX9_addBase64_49 : decode cX9_addBase64 49 = .ok (.land, 1) := by decide +kernel
theorem dX9_addBase64_50 : decode cX9_addBase64 50 = .ok (.goto 4, 3) := by decide +kernel
theorem dX9_addBase64_53 : decode cX9_addBase64 53 = .ok (.lconst 0, 1) := by decide +kernel
theorem dX9_addBase64_54 : decode cX9_addBase64 54 = .ok (.lstore 7, 2) := by decide +kernel
theorem dX9_addBase64_56 : decode cX9_addBase64 56 = .ok (.lload 5, 2) := by decide +kernel
theorem dX9_addBase64_58 : decode cX9_addBase64 58 = .ok (.bipush 32, 2) := by decide +kernel
theorem dX9_addBase64_60 : decode cX9_addBase64 60 = .ok (.lshl, 1) := by decide +kernel
theorem dX9_addBase64_61 : decode cX9_addBase64 61 = .ok (.lload 7, 2) := by decide +kernel
theorem dX9_addBase64_63 : decode cX9_addBase64 63 = .ok (.lor, 1) := by decide +kernel
theorem dX9_addBase64_64 : decode cX9_addBase64 64 = .ok (.lstore 9, 2) := by decide +kernel
theorem dX9_addBase64_66 : decode cX9_addBase64 66 = .ok (.aload_n 0, 1) := by decide +kernel
theorem dX9_addBase64_67 : decode cX9_addBase64 67 = .ok (.ldc 55, 2) := by decide +kernel
theorem dX9_addBase64_69 : decode cX9_addBase64 69 = .ok (.lload 9, 2) := by decide +kernel
theorem dX9_addBase64_71 : decode cX9_addBase64 71 = .ok (.bipush 58, 2) := by decide +kernel
theorem dX9_addBase64_73 : decode cX9_addBase64 73 = .ok (.iload_n 3, 1) := by decide +kernel
theorem dX9_addBase64_74 : decode cX9_addBase64 74 = .ok (.bipush 32, 2) := by decide +kernel
theorem dX9_addBase64_76 : decode cX9_addBase64 76 = .ok (.irem, 1) := by decide +kernel
theorem dX9_addBase64_77 : decode cX9_addBase64 77 = .ok (.isub, 1) := by decide +kernel
theorem dX9_addBase64_78 : decode cX9_addBase64 78 = .ok (.lushr, 1) := by decide +kernel
theorem dX9_addBase64_79 : decode cX9_addBase64 79 = .ok (.l2i, 1) := by decide +kernel
theorem dX9_addBase64_80 : decode cX9_addBase64 80 = .ok (.bipush 63, 2) := by decide +kernel
theorem dX9_addBase64_82 : decode cX9_addBase64 82 = .ok (.iand, 1) := by decide +kernel
theorem dX9_addBase64_83 : decode cX9_addBase64 83 = .ok (.invokevirtual 42, 3) := by decide +kernel
theorem dX9_addBase64_86 : decode cX9_addBase64 86 = .ok (.invokevirtual 28, 3) := by decide +kernel
theorem dX9_addBase64_89 : decode cX9_addBase64 89 = .ok (.iinc 3 6, 3) := by decide +kernel
theorem dX9_addBase64_92 : decode cX9_addBase64 92 = .ok (.goto (-84), 3) := by decide +kernel
theorem dX9_addBase64_95 : decode cX9_addBase64 95 = .ok (.return_, 1) := by decide +kernel
theorem dX9_copyOfPart_0 : decode cX9_copyOfPart 0 = .ok (.new 10, 3) := by decide +kernel
theorem dX9_copyOfPart_3 : decode cX9_copyOfPart 3 = .ok (.dup, 1) := by decide +kernel
theorem dX9_copyOfPart_4 : decode cX9_copyOfPart 4 = .ok (.iload_n 2, 1) := by decide +kernel
theorem dX9_copyOfPart_5 : decode cX9_copyOfPart 5 = .ok (.aload_n 0, 1) := by decide +kernel
theorem dX9_copyOfPart_6 : decode cX9_copyOfPart 6 = .ok (.getfield 15, 3) := by decide +kernel
theorem dX9_copyOfPart_9 : decode cX9_copyOfPart 9 = .ok (.invokestatic 57, 3) := by decide +kernel
theorem dX9_copyOfPart_12 : decode cX9_copyOfPart 12 = .ok (.invokespecial 60, 3) := by decide +kernel
theorem dX9_copyOfPart_15 : decode cX9_copyOfPart 15 = .ok (.astore_n 3, 1) := by decide +kernel
theorem dX9_copyOfPart_16 : decode cX9_copyOfPart 16 = .ok (.aload_n 3, 1) := by decide +kernel
theorem dX9_copyOfPart_17 : decode cX9_copyOfPart 17 = .ok (.aload_n 0, 1) := by decide +kernel
theorem dX9_copyOfPart_18 : decode cX9_copyOfPart 18 = .ok (.iload_n 1, 1) := by decide +kernel
theorem dX9_copyOfPart_19 : decode cX9_copyOfPart 19 = .ok (.iload_n 2, 1) := by decide +kernel
theorem dX9_copyOfPart_20 : decode cX9_copyOfPart 20 = .ok (.invokevirtual 62, 3) := by decide +kernel
theorem dX9_copyOfPart_23 : decode cX9_copyOfPart 23 = .ok (.aload_n 3, 1) := by decide +kernel
theorem dX9_copyOfPart_24 : decode cX9_copyOfPart 24 = .ok (.areturn, 1) := by decide +kernel
theorem dX9_same_0 : decode cX9_same 0 = .ok (.aload_n 0, 1) := by decide +kernel
theorem dX9_same_1 : decode cX9_same 1 = .ok (.iconst 0, 1) := by decide +kernel
theorem dX9_same_2 : decode cX9_same 2 = .ok (.aload_n 0, 1) := by decide +kernel
theorem dX9_same_3 : decode cX9_same 3 = .ok (.getfield 15, 3) := by decide +kernel
theorem dX9_same_6 : decode cX9_same 6 = .ok (.aload_n 1, 1) := by decide +kernel
theorem dX9_same_7 : decode cX9_same 7 = .ok (.invokevirtual 66, 3) := by decide +kernel
theorem dX9_same_10 : decode cX9_same 10 = .ok (.ireturn, 1) := by decide +kernel
theorem dX9_isPart_0 : decode cX9_isPart 0 = .ok (.iload_n 2, 1) := by decide +kernel
theorem dX9_isPart_1 : decode cX9_isPart 1 = .ok (.aload_n 3, 1) := by decide +kernel
theorem dX9_isPart_2 : decode cX9_isPart 2 = .ok (.getfield 15, 3) := by decide +kernel
theorem dX9_isPart_5 : decode cX9_isPart 5 = .ok (.if_icmp .eq 5, 3) := by decide +kernel
theorem dX9_isPart_8 : decode cX9_isPart 8 = .ok (.iconst 0, 1) := by decide +kernel
theorem dX9_isPart_9 : decode cX9_isPart 9 = .ok (.ireturn, 1) := by decide +kernel
theorem dX9_isPart_10 : decode cX9_isPart 10 = .ok (.iconst 0, 1) := by decide +kernel
theorem dX9_isPart_11 : decode cX9_isPart 11 = .ok (.istore 4, 2) := by decide +kernel
theorem dX9_isPart_13 : decode cX9_isPart 13 = .ok (.iload 4, 2) := by decide +kernel
theorem dX9_isPart_15 : decode cX9_isPart 15 = .ok (.iload_n 2, 1) := by decide +kernel
theorem dX9_isPart_16 : decode cX9_isPart 16 = .ok (.if_icmp .ge 28, 3) := by decide +kernel
theorem dX9_isPart_19 : decode cX9_isPart 19 = .ok (.aload_n 0, 1) := by decide +kernel
theorem dX9_isPart_20 : decode cX9_isPart 20 = .ok (.iload_n 1, 1) := by decide +kernel
theorem dX9_isPart_21 : decode cX9_isPart 21 = .ok (.iload 4, 2) := by decide +kernel
theorem dX9_isPart_23 : decode cX9_isPart 23 = .ok (.iadd, 1) := by decide +kernel
theorem dX9_isPart_24 : decode cX9_isPart 24 = .ok (.invokevirtual 32, 3) := by decide +kernel
theorem dX9_isPart_27 : decode cX9_isPart 27 = .ok (.aload_n 3, 1) := by decide +kernel
theorem dX9_isPart_28 : decode cX9_isPart 28 = .ok (.iload 4, 2) := by decide +kernel
theorem dX9_isPart_30 : decode cX9_isPart 30 = .ok (.invokevirtual 32, 3) := by decide +kernel
theorem dX9_isPart_33 : decode cX9_isPart 33 = .ok (.if_icmp .eq 5, 3) := by decide +kernel
theorem dX9_isPart_36 : decode cX9_isPart 36 = .ok (.iconst 0, 1) := by decide +kernel
theorem dX9_isPart_37 : decode cX9_isPart 37 = .ok (.ireturn, 1) := by decide +kernel
theorem dX9_isPart_38 : decode cX9_isPart 38 = .ok (.iinc 4 1, 3) := by decide +kernel
theorem dX9_isPart_41 : decode cX9_isPart 41 = .ok (.goto (-28), 3) := by decide +kernel
theorem dX9_isPart_44 : decode cX9_isPart 44 = .ok (.iconst 1, 1) := by decide +kernel
theorem dX9_isPart_45 : decode cX9_isPart 45 = .ok (.ireturn, 1) := by decide +kernel
theorem dX9_spells_0 : decode cX9_spells 0 = .ok (.aload_n 0, 1) := by decide +kernel
theorem dX9_spells_1 : decode cX9_spells 1 = .ok (.getfield 15, 3) := by decide +kernel
theorem dX9_spells_4 : decode cX9_spells 4 = .ok (.aload_n 1, 1) := by decide +kernel
theorem dX9_spells_5 : decode cX9_spells 5 = .ok (.invokevirtual 36, 3) := by decide +kernel
theorem dX9_spells_8 : decode cX9_spells 8 = .ok (.if_icmp .eq 5, 3) := by decide +kernel
theorem dX9_spells_11 : decode cX9_spells 11 = .ok (.iconst 0, 1) := by decide +kernel
theorem dX9_spells_12 : decode cX9_spells 12 = .ok (.ireturn, 1) := by decide +kernel
theorem dX9_spells_13 : decode cX9_spells 13 = .ok (.iconst 0, 1) := by decide +kernel
theorem dX9_spells_14 : decode cX9_spells 14 = .ok (.istore_n 2, 1) := by decide +kernel
theorem dX9_spells_15 : decode cX9_spells 15 = .ok (.iload_n 2, 1) := by decide +kernel
theorem dX9_spells_16 : decode cX9_spells 16 = .ok (.aload_n 0, 1) := by decide +kernel
theorem dX9_spells_17 : decode cX9_spells 17 = .ok (.getfield 15, 3) := by decide +kernel
theorem dX9_spells_20 : decode cX9_spells 20 = .ok (.if_icmp .ge 24, 3) := by decide +kernel
theorem dX9_spells_23 : decode cX9_spells 23 = .ok (.aload_n 0, 1) := by decide +kernel
theorem dX9_spells_24 : decode cX9_spells 24 = .ok (.iload_n 2, 1) := by decide +kernel
theorem dX9_spells_25 : decode cX9_spells 25 = .ok (.invokevirtual 32, 3) := by decide +kernel
theorem dX9_spells_28 : decode cX9_spells 28 = .ok (.aload_n 1, 1) := by decide +kernel
theorem dX9_spells_29 : decode cX9_spells 29 = .ok (.iload_n 2, 1) := by decide +kernel
theorem dX9_spells_30 : decode cX9_spells 30 = .ok (.invokevirtual 42, 3) := by decide +kernel
theorem dX9_spells_33 : decode cX9_spells 33 = .ok (.if_icmp .eq 5, 3) := by decide +kernel
theorem dX9_spells_36 : decode cX9_spells 36 = .ok (.iconst 0, 1) := by decide +kernel
theorem dX9_spells_37 : decode cX9_spells 37 = .ok (.ireturn, 1) := by decide +kernel
theorem dX9_spells_38 : decode cX9_spells 38 = .ok (.iinc 2 1, 3) := by decide +kernel
theorem dX9_spells_41 : decode cX9_spells 41 = .ok (.goto (-26), 3) := by decide +kernel
theorem dX9_spells_44 : decode cX9_spells 44 = .ok (.iconst 1, 1) := by decide +kernel
theorem dX9_spells_45 : decode cX9_spells 45 = .ok (.ireturn, 1) := by decide +kernel
theorem dX9_isVisible_0 : decode cX9_isVisible 0 = .ok (.aload_n 0, 1) := by decide +kernel
theorem dX9_isVisible_1 : decode cX9_isVisible 1 = .ok (.getfield 15, 3) := by decide +kernel
theorem dX9_isVisible_4 : decode cX9_isVisible 4 = .ok (.iconst 1, 1) := by decide +kernel
theorem dX9_isVisible_5 : decode cX9_isVisible 5 = .ok (.if_icmp .lt 11, 3) := by decide +kernel
theorem dX9_isVisible_8 : decode cX9_isVisible 8 = .ok (.aload_n 0, 1) := by decide +kernel
theorem dX9_isVisible_9 : decode cX9_isVisible 9 = .ok (.getfield 15, 3) := by decide +kernel
theorem dX9_isVisible_12 : decode cX9_isVisible 12 = .ok (.iload_n 1, 1) := by decide +kernel
theorem dX9_isVisible_13 : decode cX9_isVisible 13 = .ok (.if_icmp .le 5, 3) := by decide +kernel
theorem dX9_isVisible_16 : decode cX9_isVisible 16 = .ok (.iconst 0, 1) := by decide +kernel
theorem dX9_isVisible_17 : decode cX9_isVisible 17 = .ok (.ireturn, 1) := by decide +kernel
theorem dX9_isVisible_18 : decode cX9_isVisible 18 = .ok (.iconst 0, 1) := by decide +kernel
theorem dX9_isVisible_19 : decode cX9_isVisible 19 = .ok (.istore_n 2, 1) := by decide +kernel
theorem dX9_isVisible_20 : decode cX9_isVisible 20 = .ok (.iload_n 2, 1) := by decide +kernel
theorem dX9_isVisible_21 : decode cX9_isVisible 21 = .ok (.aload_n 0, 1) := by decide +kernel
theorem dX9_isVisible_22 : decode cX9_isVisible 22 = .ok (.getfield 15, 3) := by decide +kernel
theorem dX9_isVisible_25 : decode cX9_isVisible 25 = .ok (.if_icmp .ge 22, 3) := by decide +kernel
theorem dX9_isVisible_28 : decode cX9_isVisible 28 = .ok (.aload_n 0, 1) := by decide +kernel
theorem dX9_isVisible_29 : decode cX9_isVisible 29 = .ok (.iload_n 2, 1) := by decide +kernel
theorem dX9_isVisible_30 : decode cX9_isVisible 30 = .ok (.invokevirtual 32, 3) := by decide +kernel
theorem dX9_isVisible_33 : decode cX9_isVisible 33 = .ok (.invokestatic 70, 3) := by decide +kernel
theorem dX9_isVisible_36 : decode cX9_isVisible 36 = .ok (.ifCond .ne 5, 3) := by decide +kernel
theorem dX9_isVisible_39 : decode cX9_isVisible 39 = .ok (.iconst 0, 1) := by decide +kernel
theorem dX9_isVisible_40 : decode cX9_isVisible 40 = .ok (.ireturn, 1) := by decide +kernel
theorem dX9_isVisible_41 : decode cX9_isVisible 41 = .ok (.iinc 2 1, 3) := by decide +kernel
theorem dX9_isVisible_44 : decode cX9_isVisible 44 = .ok (.goto (-24), 3) := by decide +kernel
theorem dX9_isVisible_47 : decode cX9_isVisible 47 = .ok (.iconst 1, 1) := by decide +kernel
theorem dX9_isVisible_48 : decode cX9_isVisible 48 = .ok (.ireturn, 1) := by decide +kernel
theorem dX9_isUnreservedAll_0 : decode cX9_isUnreservedAll 0 = .ok (.iconst 0, 1) := by decide +kernel
theorem dX9_isUnreservedAll_1 : decode cX9_isUnreservedAll 1 = .ok (.istore_n 1, 1) := by decide +kernel
theorem dX9_isUnreservedAll_2 : decode cX9_isUnreservedAll 2 = .ok (.iload_n 1, 1) := by decide +kernel
theorem dX9_isUnreservedAll_3 : decode cX9_isUnreservedAll 3 = .ok (.aload_n 0, 1) := by decide +kernel
theorem dX9_isUnreservedAll_4 : decode cX9_isUnreservedAll 4 = .ok (.getfield 15, 3) := by decide +kernel
theorem dX9_isUnreservedAll_7 : decode cX9_isUnreservedAll 7 = .ok (.if_icmp .ge 22, 3) := by decide +kernel
theorem dX9_isUnreservedAll_10 : decode cX9_isUnreservedAll 10 = .ok (.aload_n 0, 1) := by decide +kernel
theorem dX9_isUnreservedAll_11 : decode cX9_isUnreservedAll 11 = .ok (.iload_n 1, 1) := by decide +kernel
theorem dX9_isUnreservedAll_12 : decode cX9_isUnreservedAll 12 = .ok (.invokevirtual 32, 3) := by decide +kernel
theorem dX9_isUnreservedAll_15 : decode cX9_isUnreservedAll 15 = .ok (.invokestatic 47, 3) := by decide +kernel
theorem dX9_isUnreservedAll_18 : decode cX9_isUnreservedAll 18 = .ok (.ifCond .ne 5, 3) := by decide +kernel
theorem dX9_isUnreservedAll_21 : decode cX9_isUnreservedAll 21 = .ok (.iconst 0, 1) := by decide +kernel
theorem dX9_isUnreservedAll_22 : decode cX9_isUnreservedAll 22 = .ok (.ireturn, 1) := by decide +kernel
theorem dX9_isUnreservedAll_23 : decode cX9_isUnreservedAll 23 = .ok (.iinc 1 1, 3) := by decide +kernel
theorem dX9_isUnreservedAll_26 : decode cX9_isUnreservedAll 26 = .ok (.goto (-24), 3) := by decide +kernel
theorem dX9_isUnreservedAll_29 : decode cX9_isUnreservedAll 29 = .ok (.iconst 1, 1) := by decide +kernel
theorem dX9_isUnreservedAll_30 : decode cX9_isUnreservedAll 30 = .ok (.ireturn, 1) := by decide +kernel
theorem dX9_has_0 : decode cX9_has 0 = .ok (.aload_n 0, 1) := by decide +kernel
theorem dX9_has_1 : decode cX9_has 1 = .ok (.iload_n 1, 1) := by decide +kernel
theorem dX9_has_2 : decode cX9_has 2 = .ok (.iconst 0, 1) := by decide +kernel
theorem dX9_has_3 : decode cX9_has 3 = .ok (.aload_n 0, 1) := by decide +kernel
theorem dX9_has_4 : decode cX9_has 4 = .ok (.getfield 15, 3) := by decide +kernel
theorem dX9_has_7 : decode cX9_has 7 = .ok (.invokevirtual 73, 3) := by decide +kernel
theorem dX9_has_10 : decode cX9_has 10 = .ok (.aload_n 0, 1) := by decide +kernel
theorem dX9_has_11 : decode cX9_has 11 = .ok (.getfield 15, 3) := by decide +kernel
theorem dX9_has_14 : decode cX9_has 14 = .ok (.if_icmp .ge 7, 3) := by decide +kernel
theorem dX9_has_17 : decode cX9_has 17 = .ok (.iconst 1, 1) := by decide +kernel
theorem dX9_has_18 : decode cX9_has 18 = .ok (.goto 4, 3) := by decide +kernel
theorem dX9_has_21 : decode cX9_has 21 = .ok (.iconst 0, 1) := by decide +kernel
theorem dX9_has_22 : decode cX9_has 22 = .ok (.ireturn, 1) := by decide +kernel
theorem dX9_indexOf_0 : decode cX9_indexOf 0 = .ok (.iload_n 2, 1) := by decide +kernel
theorem dX9_indexOf_1 : decode cX9_indexOf 1 = .ok (.istore 4, 2) := by decide +kernel
theorem dX9_indexOf_3 : decode cX9_indexOf 3 = .ok (.iload 4, 2) := by decide +kernel
theorem dX9_indexOf_5 : decode cX9_indexOf 5 = .ok (.iload_n 3, 1) := by decide +kernel
theorem dX9_indexOf_6 : decode cX9_indexOf 6 = .ok (.if_icmp .ge 22, 3) := by decide +kernel
theorem dX9_indexOf_9 : decode cX9_indexOf 9 = .ok (.aload_n 0, 1) := by decide +kernel
theorem dX9_indexOf_10 : decode cX9_indexOf 10 = .ok (.iload 4, 2) := by decide +kernel
theorem dX9_indexOf_12 : decode cX9_indexOf 12 = .ok (.invokevirtual 32, 3) := by decide +kernel
theorem dX9_indexOf_15 : decode cX9_indexOf 15 = .ok (.iload_n 1, 1) := by decide +kernel
theorem dX9_indexOf_16 : decode cX9_indexOf 16 = .ok (.if_icmp .ne 6, 3) := by decide +kernel
theorem dX9_indexOf_19 : decode cX9_indexOf 19 = .ok (.iload 4, 2) := by decide +kernel
theorem dX9_indexOf_21 : decode cX9_indexOf 21 = .ok (.ireturn, 1) := by decide +kernel
theorem dX9_indexOf_22 : decode cX9_indexOf 22 = .ok (.iinc 4 1, 3) := by decide +kernel
theorem dX9_indexOf_25 : decode cX9_indexOf 25 = .ok (.goto (-22), 3) := by decide +kernel
theorem dX9_indexOf_28 : decode cX9_indexOf 28 = .ok (.iload_n 3, 1) := by decide +kernel
theorem dX9_indexOf_29 : decode cX9_indexOf 29 = .ok (.ireturn, 1) := by decide +kernel
theorem dX10_init_0 : decode cX10_init 0 = .ok (.aload_n 0, 1) := by decide +kernel
theorem dX10_init_1 : decode cX10_init 1 = .ok (.invokespecial 1, 3) := by decide +kernel
theorem dX10_init_4 : decode cX10_init 4 = .ok (.aload_n 0, 1) := by decide +kernel
theorem dX10_init_5 : decode cX10_init 5 = .ok (.iconst 0, 1) := by decide +kernel
theorem dX10_init_6 : decode cX10_init 6 = .ok (.putfield 7, 3) := by decide +kernel
theorem dX10_init_9 : decode cX10_init 9 = .ok (.aload_n 0, 1) := by decide +kernel
theorem dX10_init_10 : decode cX10_init 10 = .ok (.aload_n 1, 1) := by decide +kernel
theorem dX10_init_11 : decode cX10_init 11 = .ok (.putfield 13, 3) := by decide +kernel
theorem dX10_init_14 : decode cX10_init 14 = .ok (.aload_n 0, 1) := by decide +kernel
theorem dX10_init_15 : decode cX10_init 15 = .ok (.iload_n 2, 1) := by decide +kernel
theorem dX10_init_16 : decode cX10_init 16 = .ok (.putfield 17, 3) := by decide +kernel
theorem dX10_init_19 : decode cX10_init 19 = .ok (.aload_n 0, 1) := by decide +kernel
theorem dX10_init_20 : decode cX10_init 20 = .ok (.iload_n 3, 1) := by decide +kernel
theorem dX10_init_21 : decode cX10_init 21 = .ok (.putfield 21, 3) := by decide +kernel
theorem dX10_init_24 : decode cX10_init 24 = .ok (.return_, 1) := by decide +kernel
theorem dX10_isGood_0 : decode cX10_isGood 0 = .ok (.iload_n 1, 1) := by decide +kernel
theorem dX10_isGood_1 : decode cX10_isGood 1 = .ok (.aload_n 0, 1) := by decide +kernel
theorem dX10_isGood_2 : decode cX10_isGood 2 = .ok (.getfield 21, 3) := by decide +kernel
theorem dX10_isGood_5 : decode cX10_isGood 5 = .ok (.if_icmp .ge 24, 3) := by decide +kernel
theorem dX10_isGood_8 : decode cX10_isGood 8 = .ok (.aload_n 0, 1) := by decide +kernel
theorem dX10_isGood_9 : decode cX10_isGood 9 = .ok (.getfield 7, 3) := by decide +kernel
theorem dX10_isGood_12 : decode cX10_isGood 12 = .ok (.ifCond .ne 17, 3) := by decide +kernel
theorem dX10_isGood_15 : decode cX10_isGood 15 = .ok (.aload_n 0, 1) := by decide +kernel
theorem dX10_isGood_16 : decode cX10_isGood 16 = .ok (.getfield 13, 3) := by decide +kernel
theorem dX10_isGood_19 : decode cX10_isGood 19 = .ok (.getfield 24, 3) := by decide +kernel
theorem dX10_isGood_22 : decode cX10_isGood 22 = .ok (.ifCond .ne 7, 3) := by decide +kernel
theorem dX10_isGood_25 : decode cX10_isGood 25 = .ok (.iconst 1, 1) := by decide +kernel
theorem dX10_isGood_26 : decode cX10_isGood 26 = .ok (.goto 4, 3) := by decide +kernel
theorem dX10_isGood_29 : decode cX10_isGood 29 = .ok (.iconst 0, 1) := by decide +kernel
theorem dX10_isGood_30 : decode cX10_isGood 30 = .ok (.ireturn, 1) := by decide +kernel
theorem dJ9_max_7cf53_0 : decode cJ9_max_7cf53 0 = .ok (.iload_n 0, 1) := by decide +kernel
theorem dJ9_max_7cf53_1 : decode cJ9_max_7cf53 1 = .ok (.iload_n 1, 1) := by decide +kernel
theorem dJ9_max_7cf53_2 : decode cJ9_max_7cf53 2 = .ok (.if_icmp .lt 7, 3) := by decide +kernel
theorem dJ9_max_7cf53_5 : decode cJ9_max_7cf53 5 = .ok (.iload_n 0, 1) := by decide +kernel
theorem dJ9_max_7cf53_6 : decode cJ9_max_7cf53 6 = .ok (.goto 4, 3) := by decide +kernel
theorem dJ9_max_7cf53_9 : decode cJ9_max_7cf53 9 = .ok (.iload_n 1, 1) := by decide +kernel
theorem dJ9_max_7cf53_10 : decode cJ9_max_7cf53 10 = .ok (.ireturn, 1) := by decide +kernel
theorem dJ9_min_7cf53_0 : decode cJ9_min_7cf53 0 = .ok (.iload_n 0, 1) := by decide +kernel
theorem dJ9_min_7cf53_1 : decode cJ9_min_7cf53 1 = .ok (.iload_n 1, 1) := by decide +kernel
theorem dJ9_min_7cf53_2 : decode cJ9_min_7cf53 2 = .ok (.if_icmp .gt 7, 3) := by decide +kernel
theorem dJ9_min_7cf53_5 : decode cJ9_min_7cf53 5 = .ok (.iload_n 0, 1) := by decide +kernel
theorem dJ9_min_7cf53_6 : decode cJ9_min_7cf53 6 = .ok (.goto 4, 3) := by decide +kernel
theorem dJ9_min_7cf53_9 : decode cJ9_min_7cf53 9 = .ok (.iload_n 1, 1) := by decide +kernel
theorem dJ9_min_7cf53_10 : decode cJ9_min_7cf53 10 = .ok (.ireturn, 1) := by decide +kernel
theorem dJ0_length_8abf5_0 : decode cJ0_length_8abf5 0 = .ok (.aload_n 0, 1) := by decide +kernel
theorem dJ0_length_8abf5_1 : decode cJ0_length_8abf5 1 = .ok (.getfield 9, 3) := by decide +kernel
theorem dJ0_length_8abf5_4 : decode cJ0_length_8abf5 4 = .ok (.arraylength, 1) := by decide +kernel
theorem dJ0_length_8abf5_5 : decode cJ0_length_8abf5 5 = .ok (.aload_n 0, 1) := by decide +kernel
theorem dJ0_length_8abf5_6 : decode cJ0_length_8abf5 6 = .ok (.invokevirtual 335, 3) := by decide +kernel
theorem dJ0_length_8abf5_9 : decode cJ0_length_8abf5 9 = .ok (.ishr, 1) := by decide +kernel
theorem dJ0_length_8abf5_10 : decode cJ0_length_8abf5 10 = .ok (.ireturn, 1) := by decide +kernel
theorem dJ0_charAt_5068e_0 : decode cJ0_charAt_5068e 0 = .ok (.aload_n 0, 1) := by decide +kernel
theorem dJ0_charAt_5068e_1 : decode cJ0_charAt_5068e 1 = .ok (.invokevirtual 492, 3) := by decide +kernel
theorem dJ0_charAt_5068e_4 : decode cJ0_charAt_5068e 4 = .ok (.ifCond .eq 12, 3) := by decide +kernel
theorem dJ0_charAt_5068e_7 : decode cJ0_charAt_5068e 7 = .ok (.aload_n 0, 1) := by decide +kernel
theorem dJ0_charAt_5068e_8 : decode cJ0_charAt_5068e 8 = .ok (.getfield 9, 3) := by decide +kernel
theorem dJ0_charAt_5068e_11 : decode cJ0_charAt_5068e 11 = .ok (.iload_n 1, 1) := by decide +kernel
theorem dJ0_charAt_5068e_12 : decode cJ0_charAt_5068e 12 = .ok (.invokestatic 495, 3) := by decide +kernel
theorem dJ0_charAt_5068e_15 : decode cJ0_charAt_5068e 15 = .ok (.ireturn, 1) := by decide +kernel
theorem dJ0_charAt_5068e_16 : decode cJ0_charAt_5068e 16 = .ok (.aload_n 0, 1) := by decide +kernel
theorem dJ0_charAt_5068e_17 : decode cJ0_charAt_5068e 17 = .ok (.getfield 9, 3) := by decide +kernel
theorem dJ0_charAt_5068e_20 : decode cJ0_charAt_5068e 20 = .ok (.iload_n 1, 1) := by decide +kernel
theorem dJ0_charAt_5068e_21 : decode cJ0_charAt_5068e 21 = .ok (.invokestatic 498, 3) := by decide +kernel
theorem dJ0_charAt_5068e_24 : decode cJ0_charAt_5068e 24 = .ok (.ireturn, 1) := by decide +kernel
theorem dJ0_coder_7d493_0 : decode cJ0_coder_7d493 0 = .ok (.getstatic 38, 3) := by decide +kernel
theorem dJ0_coder_7d493_3 : decode cJ0_coder_7d493 3 = .ok (.ifCond .eq 10, 3) := by decide +kernel
theorem dJ0_coder_7d493_6 : decode cJ0_coder_7d493 6 = .ok (.aload_n 0, 1) := by decide +kernel
theorem dJ0_coder_7d493_7 : decode cJ0_coder_7d493 7 = .ok (.getfield 15, 3) := by decide +kernel
theorem dJ0_coder_7d493_10 : decode cJ0_coder_7d493 10 = .ok (.goto 4, 3) := by decide +kernel
theorem dJ0_coder_7d493_13 : decode cJ0_coder_7d493 13 = .ok (.iconst 1, 1) := by decide +kernel
theorem dJ0_coder_7d493_14 : decode cJ0_coder_7d493 14 = .ok (.ireturn, 1) := by decide +kernel
theorem dJ0_isLatin1_aae02_0 : decode cJ0_isLatin1_aae02 0 = .ok (.getstatic 38, 3) := by decide +kernel
theorem dJ0_isLatin1_aae02_3 : decode cJ0_isLatin1_aae02 3 = .ok (.ifCond .eq 14, 3) := by decide +kernel
theorem dJ0_isLatin1_aae02_6 : decode cJ0_isLatin1_aae02 6 = .ok (.aload_n 0, 1) := by decide +kernel
theorem dJ0_isLatin1_aae02_7 : decode cJ0_isLatin1_aae02 7 = .ok (.getfield 15, 3) := by decide +kernel
theorem dJ0_isLatin1_aae02_10 : decode cJ0_isLatin1_aae02 10 = .ok (.ifCond .ne 7, 3) := by decide +kernel
theorem dJ0_isLatin1_aae02_13 : decode cJ0_isLatin1_aae02 13 = .ok (.iconst 1, 1) := by decide +kernel
theorem dJ0_isLatin1_aae02_14 : decode cJ0_isLatin1_aae02 14 = .ok (.goto 4, 3) := by decide +kernel
theorem dJ0_isLatin1_aae02_17 : decode cJ0_isLatin1_aae02 17 = .ok (.iconst 0, 1) := by decide +kernel
theorem dJ0_isLatin1_aae02_18 : decode cJ0_isLatin1_aae02 18 = .ok (.ireturn, 1) := by decide +kernel
theorem dJ0_checkIndex_df160_0 : decode cJ0_checkIndex_df160 0 = .ok (.iload_n 0, 1) := by decide +kernel
theorem dJ0_checkIndex_df160_1 : decode cJ0_checkIndex_df160 1 = .ok (.iload_n 1, 1) := by decide +kernel
theorem dJ0_checkIndex_df160_2 : decode cJ0_checkIndex_df160 2 = .ok (.getstatic 1053, 3) := by decide +kernel
theorem dJ0_checkIndex_df160_5 : decode cJ0_checkIndex_df160 5 = .ok (.invokestatic 1059, 3) := by decide +kernel
theorem dJ0_checkIndex_df160_8 : decode cJ0_checkIndex_df160 8 = .ok (.pop, 1) := by decide +kernel
theorem dJ0_checkIndex_df160_9 : decode cJ0_checkIndex_df160 9 = .ok (.return_, 1) := by decide +kernel
theorem dJ1_charAt_3b067_0 : decode cJ1_charAt_3b067 0 = .ok (.iload_n 1, 1) := by decide +kernel
theorem dJ1_charAt_3b067_1 : decode cJ1_charAt_3b067 1 = .ok (.aload_n 0, 1) := by decide +kernel
theorem dJ1_charAt_3b067_2 : decode cJ1_charAt_3b067 2 = .ok (.arraylength, 1) := by decide +kernel
theorem dJ1_charAt_3b067_3 : decode cJ1_charAt_3b067 3 = .ok (.invokestatic 9, 3) := by decide +kernel
theorem dJ1_charAt_3b067_6 : decode cJ1_charAt_3b067 6 = .ok (.aload_n 0, 1) := by decide +kernel
theorem dJ1_charAt_3b067_7 : decode cJ1_charAt_3b067 7 = .ok (.iload_n 1, 1) := by decide +kernel
theorem dJ1_charAt_3b067_8 : decode cJ1_charAt_3b067 8 = .ok (.baload, 1) := by decide +kernel
theorem dJ1_charAt_3b067_9 : decode cJ1_charAt_3b067 9 = .ok (.sipush 255, 3) := by decide +kernel
theorem dJ1_charAt_3b067_12 : decode cJ1_charAt_3b067 12 = .ok (.iand, 1) := by decide +kernel
theorem dJ1_charAt_3b067_13 : decode cJ1_charAt_3b067 13 = .ok (.i2c, 1) := by decide +kernel
theorem dJ1_charAt_3b067_14 : decode cJ1_charAt_3b067 14 = .ok (.ireturn, 1) := by decide +kernel
theorem dJ2_getChar_3b067_0 : decode cJ2_getChar_3b067 0 = .ok (.getstatic 44, 3) := by decide +kernel
theorem dJ2_getChar_3b067_3 : decode cJ2_getChar_3b067 3 = .ok (.ifCond .ne 25, 3) := by decide +kernel
theorem dJ2_getChar_3b067_6 : decode cJ2_getChar_3b067 6 = .ok (.iload_n 1, 1) := by decide +kernel
theorem dJ2_getChar_3b067_7 : decode cJ2_getChar_3b067 7 = .ok (.ifCond .lt 11, 3) := by decide +kernel
theorem dJ2_getChar_3b067_10 : decode cJ2_getChar_3b067 10 = .ok (.iload_n 1, 1) := by decide +kernel
theorem dJ2_getChar_3b067_11 : decode cJ2_getChar_3b067 11 = .ok (.aload_n 0, 1) := by decide +kernel
theorem dJ2_getChar_3b067_12 : decode cJ2_getChar_3b067 12 = .ok (.invokestatic 48, 3) := by decide +kernel
theorem dJ2_getChar_3b067_15 : decode cJ2_getChar_3b067 15 = .ok (.if_icmp .lt 13, 3) := by decide +kernel
theorem dJ2_getChar_3b067_18 : decode cJ2_getChar_3b067 18 = .ok (.new 52, 3) := by decide +kernel
theorem dJ2_getChar_3b067_21 : decode cJ2_getChar_3b067 21 = .ok (.dup, 1) := by decide +kernel
theorem dJ2_getChar_3b067_22 : decode cJ2_getChar_3b067 22 = .ok (.ldc 54, 2) := by decide +kernel
theorem dJ2_getChar_3b067_24 : decode cJ2_getChar_3b067 24 = .ok (.invokespecial 56, 3) := by decide +kernel
theorem dJ2_getChar_3b067_27 : decode cJ2_getChar_3b067 27 = .ok (.athrow, 1) := by decide +kernel
theorem dJ2_getChar_3b067_28 : decode cJ2_getChar_3b067 28 = .ok (.iload_n 1, 1) := by decide +kernel
theorem dJ2_getChar_3b067_29 : decode cJ2_getChar_3b067 29 = .ok (.iconst 1, 1) := by decide +kernel
theorem dJ2_getChar_3b067_30 : decode cJ2_getChar_3b067 30 = .ok (.ishl, 1) := by decide +kernel
theorem dJ2_getChar_3b067_31 : decode cJ2_getChar_3b067 31 = .ok (.istore_n 1, 1) := by decide +kernel
theorem dJ2_getChar_3b067_32 : decode cJ2_getChar_3b067 32 = .ok (.aload_n 0, 1) := by decide +kernel
theorem dJ2_getChar_3b067_33 : decode cJ2_getChar_3b067 33 = .ok (.iload_n 1, 1) := by decide +kernel
theorem dJ2_getChar_3b067_34 : decode cJ2_getChar_3b067 34 = .ok (.iinc 1 1, 3) := by decide +kernel
theorem dJ2_getChar_3b067_37 : decode cJ2_getChar_3b067 37 = .ok (.baload, 1) := by decide +kernel
theorem dJ2_getChar_3b067_38 : decode cJ2_getChar_3b067 38 = .ok (.sipush 255, 3) := by decide +kernel
theorem dJ2_getChar_3b067_41 : decode cJ2_getChar_3b067 41 = .ok (.iand, 1) := by decide +kernel
theorem dJ2_getChar_3b067_42 : decode cJ2_getChar_3b067 42 = .ok (.getstatic 59, 3) := by decide +kernel
theorem dJ2_getChar_3b067_45 : decode cJ2_getChar_3b067 45 = .ok (.ishl, 1) := by decide +kernel
theorem dJ2_getChar_3b067_46 : decode cJ2_getChar_3b067 46 = .ok (.aload_n 0, 1) := by decide +kernel
theorem dJ2_getChar_3b067_47 : decode cJ2_getChar_3b067 47 = .ok (.iload_n 1, 1) := by decide +kernel
theorem dJ2_getChar_3b067_48 : decode cJ2_getChar_3b067 48 = .ok (.baload, 1) := by decide +kernel
theorem dJ2_getChar_3b067_49 : decode cJ2_getChar_3b067 49 = .ok (.sipush 255, 3) := by decide +kernel
theorem dJ2_getChar_3b067_52 : decode cJ2_getChar_3b067 52 = .ok (.iand, 1) := by decide +kernel
theorem dJ2_getChar_3b067_53 : decode cJ2_getChar_3b067 53 = .ok (.getstatic 63, 3) := by decide +kernel
theorem dJ2_getChar_3b067_56 : decode cJ2_getChar_3b067 56 = .ok (.ishl, 1) := by decide +kernel
theorem dJ2_getChar_3b067_57 : decode cJ2_getChar_3b067 57 = .ok (.ior, 1) := by decide +kernel
theorem dJ2_getChar_3b067_58 : decode cJ2_getChar_3b067 58 = .ok (.i2c, 1) := by decide +kernel
theorem dJ2_getChar_3b067_59 : decode cJ2_getChar_3b067 59 = .ok (.ireturn, 1) := by decide +kernel
theorem dJ2_length_9d52b_0 : decode cJ2_length_9d52b 0 = .ok (.aload_n 0, 1) := by decide +kernel
theorem dJ2_length_9d52b_1 : decode cJ2_length_9d52b 1 = .ok (.arraylength, 1) := by decide +kernel
theorem dJ2_length_9d52b_2 : decode cJ2_length_9d52b 2 = .ok (.iconst 1, 1) := by decide +kernel
theorem dJ2_length_9d52b_3 : decode cJ2_length_9d52b 3 = .ok (.ishr, 1) := by decide +kernel
theorem dJ2_length_9d52b_4 : decode cJ2_length_9d52b 4 = .ok (.ireturn, 1) := by decide +kernel
theorem dJ2_charAt_3b067_0 : decode cJ2_charAt_3b067 0 = .ok (.iload_n 1, 1) := by decide +kernel
theorem dJ2_charAt_3b067_1 : decode cJ2_charAt_3b067 1 = .ok (.aload_n 0, 1) := by decide +kernel
theorem dJ2_charAt_3b067_2 : decode cJ2_charAt_3b067 2 = .ok (.invokestatic 67, 3) := by decide +kernel
theorem dJ2_charAt_3b067_5 : decode cJ2_charAt_3b067 5 = .ok (.aload_n 0, 1) := by decide +kernel
theorem dJ2_charAt_3b067_6 : decode cJ2_charAt_3b067 6 = .ok (.iload_n 1, 1) := by decide +kernel
theorem dJ2_charAt_3b067_7 : decode cJ2_charAt_3b067 7 = .ok (.invokestatic 71, 3) := by decide +kernel
theorem dJ2_charAt_3b067_10 : decode cJ2_charAt_3b067 10 = .ok (.ireturn, 1) := by decide +kernel
theorem dJ2_checkIndex_2214a_0 : decode cJ2_checkIndex_2214a 0 = .ok (.iload_n 0, 1) := by decide +kernel
theorem dJ2_checkIndex_2214a_1 : decode cJ2_checkIndex_2214a 1 = .ok (.aload_n 1, 1) := by decide +kernel
theorem dJ2_checkIndex_2214a_2 : decode cJ2_checkIndex_2214a 2 = .ok (.invokestatic 48, 3) := by decide +kernel
theorem dJ2_checkIndex_2214a_5 : decode cJ2_checkIndex_2214a 5 = .ok (.invokestatic 414, 3) := by decide +kernel
theorem dJ2_checkIndex_2214a_8 : decode cJ2_checkIndex_2214a 8 = .ok (.return_, 1) := by decide +kernel
theorem dJxa1e45_init_da8c8_0 : decode cJxa1e45_init_da8c8 0 = .ok (.aload_n 0, 1) := by decide +kernel
theorem dJxa1e45_init_da8c8_1 : decode cJxa1e45_init_da8c8 1 = .ok (.invokespecial 1, 3) := by decide +kernel
theorem dJxa1e45_init_da8c8_4 : decode cJxa1e45_init_da8c8 4 = .ok (.return_, 1) := by decide +kernel
theorem dJxc12de_init_da8c8_0 : decode cJxc12de_init_da8c8 0 = .ok (.aload_n 0, 1) := by decide +kernel
theorem dJxc12de_init_da8c8_1 : decode cJxc12de_init_da8c8 1 = .ok (.invokespecial 1, 3) := by decide +kernel
theorem dJxc12de_init_da8c8_4 : decode cJxc12de_init_da8c8 4 = .ok (.aload_n 0, 1) := by decide +kernel
theorem dJxc12de_init_da8c8_5 : decode cJxc12de_init_da8c8 5 = .ok (.iconst 0, 1) := by decide +kernel
theorem dJxc12de_init_da8c8_6 : decode cJxc12de_init_da8c8 6 = .ok (.putfield 7, 3) := by decide +kernel
theorem dJxc12de_init_da8c8_9 : decode cJxc12de_init_da8c8 9 = .ok (.return_, 1) := by decide +kernel
theorem dJx4a65c_init_da8c8_0 : decode cJx4a65c_init_da8c8 0 = .ok (.aload_n 0, 1) := by decide +kernel
theorem dJx4a65c_init_da8c8_1 : decode cJx4a65c_init_da8c8 1 = .ok (.invokespecial 1, 3) := by decide +kernel
theorem dJx4a65c_init_da8c8_4 : decode cJx4a65c_init_da8c8 4 = .ok (.aload_n 0, 1) := by decide +kernel
theorem dJx4a65c_init_da8c8_5 : decode cJx4a65c_init_da8c8 5 = .ok (.getstatic 39, 3) := by decide +kernel
theorem dJx4a65c_init_da8c8_8 : decode cJx4a65c_init_da8c8 8 = .ok (.putfield 9, 3) := by decide +kernel
theorem dJx4a65c_init_da8c8_11 : decode cJx4a65c_init_da8c8 11 = .ok (.return_, 1) := by decide +kernel
theorem dJx4a65c_grow_92f84_0 : decode cJx4a65c_grow_92f84 0 = .ok (.aload_n 0, 1) := by decide +kernel
theorem dJx4a65c_grow_92f84_1 : decode cJx4a65c_grow_92f84 1 = .ok (.getfield 9, 3) := by decide +kernel
theorem dJx4a65c_grow_92f84_4 : decode cJx4a65c_grow_92f84 4 = .ok (.arraylength, 1) := by decide +kernel
theorem dJx4a65c_grow_92f84_5 : decode cJx4a65c_grow_92f84 5 = .ok (.istore_n 2, 1) := by decide +kernel
theorem dJx4a65c_grow_92f84_6 : decode cJx4a65c_grow_92f84 6 = .ok (.iload_n 2, 1) := by decide +kernel
theorem dJx4a65c_grow_92f84_7 : decode cJx4a65c_grow_92f84 7 = .ok (.ifCond .gt 13, 3) := by decide +kernel
theorem dJx4a65c_grow_92f84_10 : decode cJx4a65c_grow_92f84 10 = .ok (.aload_n 0, 1) := by decide +kernel
theorem dJx4a65c_grow_92f84_11 : decode cJx4a65c_grow_92f84 11 = .ok (.getfield 9, 3) := by decide +kernel
theorem dJx4a65c_grow_92f84_14 : decode cJx4a65c_grow_92f84 14 = .ok (.getstatic 39, 3) := by decide +kernel
theorem dJx4a65c_grow_92f84_17 : decode cJx4a65c_grow_92f84 17 = .ok (.if_acmp .eq 28, 3) := by decide +kernel
theorem dJx4a65c_grow_92f84_20 : decode cJx4a65c_grow_92f84 20 = .ok (.iload_n 2, 1) := by decide +kernel
theorem dJx4a65c_grow_92f84_21 : decode cJx4a65c_grow_92f84 21 = .ok (.iload_n 1, 1) := by decide +kernel
theorem dJx4a65c_grow_92f84_22 : decode cJx4a65c_grow_92f84 22 = .ok (.iload_n 2, 1) := by decide +kernel
theorem dJx4a65c_grow_92f84_23 : decode cJx4a65c_grow_92f84 23 = .ok (.isub, 1) := by decide +kernel
theorem dJx4a65c_grow_92f84_24 : decode cJx4a65c_grow_92f84 24 = .ok (.iload_n 2, 1) := by decide +kernel
theorem dJx4a65c_grow_92f84_25 : decode cJx4a65c_grow_92f84 25 = .ok (.iconst 1, 1) := by decide +kernel
theorem dJx4a65c_grow_92f84_26 : decode cJx4a65c_grow_92f84 26 = .ok (.ishr, 1) := by decide +kernel
theorem dJx4a65c_grow_92f84_27 : decode cJx4a65c_grow_92f84 27 = .ok (.invokestatic 73, 3) := by decide +kernel
theorem dJx4a65c_grow_92f84_30 : decode cJx4a65c_grow_92f84 30 = .ok (.istore_n 3, 1) := by decide +kernel
theorem dJx4a65c_grow_92f84_31 : decode cJx4a65c_grow_92f84 31 = .ok (.aload_n 0, 1) := by decide +kernel
theorem dJx4a65c_grow_92f84_32 : decode cJx4a65c_grow_92f84 32 = .ok (.aload_n 0, 1) := by decide +kernel
theorem dJx4a65c_grow_92f84_33 : decode cJx4a65c_grow_92f84 33 = .ok (.getfield 9, 3) := by decide +kernel
theorem dJx4a65c_grow_92f84_36 : decode cJx4a65c_grow_92f84 36 = .ok (.iload_n 3, 1) := by decide +kernel
theorem dJx4a65c_grow_92f84_37 : decode cJx4a65c_grow_92f84 37 = .ok (.invokestatic 66, 3) := by decide +kernel
theorem dJx4a65c_grow_92f84_40 : decode cJx4a65c_grow_92f84 40 = .ok (.dup_x1, 1) := by decide +kernel
theorem dJx4a65c_grow_92f84_41 : decode cJx4a65c_grow_92f84 41 = .ok (.putfield 9, 3) := by decide +kernel
theorem dJx4a65c_grow_92f84_44 : decode cJx4a65c_grow_92f84 44 = .ok (.areturn, 1) := by decide +kernel
theorem dJx4a65c_grow_92f84_45 : decode cJx4a65c_grow_92f84 45 = .ok (.aload_n 0, 1) := by decide +kernel
theorem dJx4a65c_grow_92f84_46 : decode cJx4a65c_grow_92f84 46 = .ok (.bipush 10, 2) := by decide +kernel
theorem dJx4a65c_grow_92f84_48 : decode cJx4a65c_grow_92f84 48 = .ok (.iload_n 1, 1) := by decide +kernel
theorem dJx4a65c_grow_92f84_49 : decode cJx4a65c_grow_92f84 49 = .ok (.invokestatic 79, 3) := by decide +kernel
theorem dJx4a65c_grow_92f84_52 : decode cJx4a65c_grow_92f84 52 = .ok (.anewarray 7, 3) := by decide +kernel
theorem dJx4a65c_grow_92f84_55 : decode cJx4a65c_grow_92f84 55 = .ok (.dup_x1, 1) := by decide +kernel
theorem dJx4a65c_grow_92f84_56 : decode cJx4a65c_grow_92f84 56 = .ok (.putfield 9, 3) := by decide +kernel
theorem dJx4a65c_grow_92f84_59 : decode cJx4a65c_grow_92f84 59 = .ok (.areturn, 1) := by decide +kernel
theorem dJx4a65c_grow_d5877_0 : decode cJx4a65c_grow_d5877 0 = .ok (.aload_n 0, 1) := by decide +kernel
theorem dJx4a65c_grow_d5877_1 : decode cJx4a65c_grow_d5877 1 = .ok (.aload_n 0, 1) := by decide +kernel
theorem dJx4a65c_grow_d5877_2 : decode cJx4a65c_grow_d5877 2 = .ok (.getfield 48, 3) := by decide +kernel
theorem dJx4a65c_grow_d5877_5 : decode cJx4a65c_grow_d5877 5 = .ok (.iconst 1, 1) := by decide +kernel
theorem dJx4a65c_grow_d5877_6 : decode cJx4a65c_grow_d5877 6 = .ok (.iadd, 1) := by decide +kernel
theorem dJx4a65c_grow_d5877_7 : decode cJx4a65c_grow_d5877 7 = .ok (.invokevirtual 69, 3) := by decide +kernel
theorem dJx4a65c_grow_d5877_10 : decode cJx4a65c_grow_d5877 10 = .ok (.areturn, 1) := by decide +kernel
theorem dJx4a65c_size_8abf5_0 : decode cJx4a65c_size_8abf5 0 = .ok (.aload_n 0, 1) := by decide +kernel
theorem dJx4a65c_size_8abf5_1 : decode cJx4a65c_size_8abf5 1 = .ok (.getfield 48, 3) := by decide +kernel
theorem dJx4a65c_size_8abf5_4 : decode cJx4a65c_size_8abf5 4 = .ok (.ireturn, 1) := by decide +kernel
theorem dJx4a65c_isEmpty_aae02_0 : decode cJx4a65c_isEmpty_aae02 0 = .ok (.aload_n 0, 1) := by decide +kernel
theorem dJx4a65c_isEmpty_aae02_1 : decode cJx4a65c_isEmpty_aae02 1 = .ok (.getfield 48, 3) := by decide +kernel
theorem dJx4a65c_isEmpty_aae02_4 : decode cJx4a65c_isEmpty_aae02 4 = .ok (.ifCond .ne 7, 3) := by decide +kernel
theorem dJx4a65c_isEmpty_aae02_7 : decode cJx4a65c_isEmpty_aae02 7 = .ok (.iconst 1, 1) := by decide +kernel
theorem dJx4a65c_isEmpty_aae02_8 : decode cJx4a65c_isEmpty_aae02 8 = .ok (.goto 4, 3) := by decide +kernel
theorem dJx4a65c_isEmpty_aae02_11 : decode cJx4a65c_isEmpty_aae02 11 = .ok (.iconst 0, 1) := by decide +kernel
theorem dJx4a65c_isEmpty_aae02_12 : decode cJx4a65c_isEmpty_aae02 12 = .ok (.ireturn, 1) := by decide +kernel
theorem dJx4a65c_elementData_915e3_0 : decode cJx4a65c_elementData_915e3 0 = .ok (.aload_n 0, 1) := by decide +kernel
theorem dJx4a65c_elementData_915e3_1 : decode cJx4a65c_elementData_915e3 1 = .ok (.getfield 9, 3) := by decide +kernel
theorem dJx4a65c_elementData_915e3_4 : decode cJx4a65c_elementData_915e3 4 = .ok (.iload_n 1, 1) := by decide +kernel
theorem dJx4a65c_elementData_915e3_5 : decode cJx4a65c_elementData_915e3 5 = .ok (.aaload, 1) := by decide +kernel
theorem dJx4a65c_elementData_915e3_6 : decode cJx4a65c_elementData_915e3 6 = .ok (.areturn, 1) := by decide +kernel
theorem dJx4a65c_get_915e3_0 : decode cJx4a65c_get_915e3 0 = .ok (.iload_n 1, 1) := by decide +kernel
theorem dJx4a65c_get_915e3_1 : decode cJx4a65c_get_915e3 1 = .ok (.aload_n 0, 1) := by decide +kernel
theorem dJx4a65c_get_915e3_2 : decode cJx4a65c_get_915e3 2 = .ok (.getfield 48, 3) := by decide +kernel
theorem dJx4a65c_get_915e3_5 : decode cJx4a65c_get_915e3 5 = .ok (.invokestatic 118, 3) := by decide +kernel
theorem dJx4a65c_get_915e3_8 : decode cJx4a65c_get_915e3 8 = .ok (.pop, 1) := by decide +kernel
theorem dJx4a65c_get_915e3_9 : decode cJx4a65c_get_915e3 9 = .ok (.aload_n 0, 1) := by decide +kernel
theorem dJx4a65c_get_915e3_10 : decode cJx4a65c_get_915e3 10 = .ok (.iload_n 1, 1) := by decide +kernel
theorem dJx4a65c_get_915e3_11 : decode cJx4a65c_get_915e3 11 = .ok (.invokevirtual 123, 3) := by decide +kernel
theorem dJx4a65c_get_915e3_14 : decode cJx4a65c_get_915e3 14 = .ok (.areturn, 1) := by decide +kernel
theorem dJx4a65c_add_72be8_0 : decode cJx4a65c_add_72be8 0 = .ok (.iload_n 3, 1) := by decide +kernel
theorem dJx4a65c_add_72be8_1 : decode cJx4a65c_add_72be8 1 = .ok (.aload_n 2, 1) := by decide +kernel
theorem dJx4a65c_add_72be8_2 : decode cJx4a65c_add_72be8 2 = .ok (.arraylength, 1) := by decide +kernel
theorem dJx4a65c_add_72be8_3 : decode cJx4a65c_add_72be8 3 = .ok (.if_icmp .ne 8, 3) := by decide +kernel
theorem dJx4a65c_add_72be8_6 : decode cJx4a65c_add_72be8 6 = .ok (.aload_n 0, 1) := by decide +kernel
theorem dJx4a65c_add_72be8_7 : decode cJx4a65c_add_72be8 7 = .ok (.invokevirtual 129, 3) := by decide +kernel
theorem dJx4a65c_add_72be8_10 : decode cJx4a65c_add_72be8 10 = .ok (.astore_n 2, 1) := by decide +kernel
theorem dJx4a65c_add_72be8_11 : decode cJx4a65c_add_72be8 11 = .ok (.aload_n 2, 1) := by decide +kernel
theorem dJx4a65c_add_72be8_12 : decode cJx4a65c_add_72be8 12 = .ok (.iload_n 3, 1) := by decide +kernel
theorem dJx4a65c_add_72be8_13 : decode cJx4a65c_add_72be8 13 = .ok (.aload_n 1, 1) := by decide +kernel
theorem dJx4a65c_add_72be8_14 : decode cJx4a65c_add_72be8 14 = .ok (.aastore, 1) := by decide +kernel
theorem dJx4a65c_add_72be8_15 : decode cJx4a65c_add_72be8 15 = .ok (.aload_n 0, 1) := by decide +kernel
theorem dJx4a65c_add_72be8_16 : decode cJx4a65c_add_72be8 16 = .ok (.iload_n 3, 1) := by decide +kernel
theorem dJx4a65c_add_72be8_17 : decode cJx4a65c_add_72be8 17 = .ok (.iconst 1, 1) := by decide +kernel
theorem dJx4a65c_add_72be8_18 : decode cJx4a65c_add_72be8 18 = .ok (.iadd, 1) := by decide +kernel
theorem dJx4a65c_add_72be8_19 : decode cJx4a65c_add_72be8 19 = .ok (.putfield 48, 3) := by decide +kernel
theorem dJx4a65c_add_72be8_22 : decode cJx4a65c_add_72be8 22 = .ok (.return_, 1) := by decide +kernel
theorem dJx4a65c_add_9ea2d_0 : decode cJx4a65c_add_9ea2d 0 = .ok (.aload_n 0, 1) := by decide +kernel
theorem dJx4a65c_add_9ea2d_1 : decode cJx4a65c_add_9ea2d 1 = .ok (.dup, 1) := by decide +kernel
theorem dJx4a65c_add_9ea2d_2 : decode cJx4a65c_add_9ea2d 2 = .ok (.getfield 63, 3) := by decide +kernel
theorem dJx4a65c_add_9ea2d_5 : decode cJx4a65c_add_9ea2d 5 = .ok (.iconst 1, 1) := by decide +kernel
theorem dJx4a65c_add_9ea2d_6 : decode cJx4a65c_add_9ea2d 6 = .ok (.iadd, 1) := by decide +kernel
theorem dJx4a65c_add_9ea2d_7 : decode cJx4a65c_add_9ea2d 7 = .ok (.putfield 63, 3) := by decide +kernel
theorem dJx4a65c_add_9ea2d_10 : decode cJx4a65c_add_9ea2d 10 = .ok (.aload_n 0, 1) := by decide +kernel
theorem dJx4a65c_add_9ea2d_11 : decode cJx4a65c_add_9ea2d 11 = .ok (.aload_n 1, 1) := by decide +kernel
theorem dJx4a65c_add_9ea2d_12 : decode cJx4a65c_add_9ea2d 12 = .ok (.aload_n 0, 1) := by decide +kernel
theorem dJx4a65c_add_9ea2d_13 : decode cJx4a65c_add_9ea2d 13 = .ok (.getfield 9, 3) := by decide +kernel
theorem dJx4a65c_add_9ea2d_16 : decode cJx4a65c_add_9ea2d 16 = .ok (.aload_n 0, 1) := by decide +kernel
theorem dJx4a65c_add_9ea2d_17 : decode cJx4a65c_add_9ea2d 17 = .ok (.getfield 48, 3) := by decide +kernel
theorem dJx4a65c_add_9ea2d_20 : decode cJx4a65c_add_9ea2d 20 = .ok (.invokevirtual 131, 3) := by decide +kernel
theorem dJx4a65c_add_9ea2d_23 : decode cJx4a65c_add_9ea2d 23 = .ok (.iconst 1, 1) := by decide +kernel
theorem dJx4a65c_add_9ea2d_24 : decode cJx4a65c_add_9ea2d 24 = .ok (.ireturn, 1) := by decide +kernel
theorem dJx4a65c_remove_915e3_0 : decode cJx4a65c_remove_915e3 0 = .ok (.iload_n 1, 1) := by decide +kernel
theorem dJx4a65c_remove_915e3_1 : decode cJx4a65c_remove_915e3 1 = .ok (.aload_n 0, 1) := by decide +kernel
theorem dJx4a65c_remove_915e3_2 : decode cJx4a65c_remove_915e3 2 = .ok (.getfield 48, 3) := by decide +kernel
theorem dJx4a65c_remove_915e3_5 : decode cJx4a65c_remove_915e3 5 = .ok (.invokestatic 118, 3) := by decide +kernel
theorem dJx4a65c_remove_915e3_8 : decode cJx4a65c_remove_915e3 8 = .ok (.pop, 1) := by decide +kernel
theorem dJx4a65c_remove_915e3_9 : decode cJx4a65c_remove_915e3 9 = .ok (.aload_n 0, 1) := by decide +kernel
theorem dJx4a65c_remove_915e3_10 : decode cJx4a65c_remove_915e3 10 = .ok (.getfield 9, 3) := by decide +kernel
theorem dJx4a65c_remove_915e3_13 : decode cJx4a65c_remove_915e3 13 = .ok (.astore_n 2, 1) := by decide +kernel
theorem dJx4a65c_remove_915e3_14 : decode cJx4a65c_remove_915e3 14 = .ok (.aload_n 2, 1) := by decide +kernel
theorem dJx4a65c_remove_915e3_15 : decode cJx4a65c_remove_915e3 15 = .ok (.iload_n 1, 1) := by decide +kernel
theorem dJx4a65c_remove_915e3_16 : decode cJx4a65c_remove_915e3 16 = .ok (.aaload, 1) := by decide +kernel
theorem dJx4a65c_remove_915e3_17 : decode cJx4a65c_remove_915e3 17 = .ok (.astore_n 3, 1) := by decide +kernel
theorem dJx4a65c_remove_915e3_18 : decode cJx4a65c_remove_915e3 18 = .ok (.aload_n 0, 1) := by decide +kernel
theorem dJx4a65c_remove_915e3_19 : decode cJx4a65c_remove_915e3 19 = .ok (.aload_n 2, 1) := by decide +kernel
theorem dJx4a65c_remove_915e3_20 : decode cJx4a65c_remove_915e3 20 = .ok (.iload_n 1, 1) := by decide +kernel
theorem dJx4a65c_remove_915e3_21 : decode cJx4a65c_remove_915e3 21 = .ok (.invokevirtual 144, 3) := by decide +kernel
theorem dJx4a65c_remove_915e3_24 : decode cJx4a65c_remove_915e3 24 = .ok (.aload_n 3, 1) := by decide +kernel
theorem dJx4a65c_remove_915e3_25 : decode cJx4a65c_remove_915e3 25 = .ok (.areturn, 1) := by decide +kernel
theorem dJx4a65c_fastRemove_b59b0_0 : decode cJx4a65c_fastRemove_b59b0 0 = .ok (.aload_n 0, 1) := by decide +kernel
theorem dJx4a65c_fastRemove_b59b0_1 : decode cJx4a65c_fastRemove_b59b0 1 = .ok (.dup, 1) := by decide +kernel
theorem dJx4a65c_fastRemove_b59b0_2 : decode cJx4a65c_fastRemove_b59b0 2 = .ok (.getfield 63, 3) := by decide +kernel
theorem dJx4a65c_fastRemove_b59b0_5 : decode cJx4a65c_fastRemove_b59b0 5 = .ok (.iconst 1, 1) := by decide +kernel
theorem dJx4a65c_fastRemove_b59b0_6 : decode cJx4a65c_fastRemove_b59b0 6 = .ok (.iadd, 1) := by decide +kernel
theorem dJx4a65c_fastRemove_b59b0_7 : decode cJx4a65c_fastRemove_b59b0 7 = .ok (.putfield 63, 3) := by decide +kernel
theorem dJx4a65c_fastRemove_b59b0_10 : decode cJx4a65c_fastRemove_b59b0 10 = .ok (.aload_n 0, 1) := by decide +kernel
theorem dJx4a65c_fastRemove_b59b0_11 : decode cJx4a65c_fastRemove_b59b0 11 = .ok (.getfield 48, 3) := by decide +kernel
theorem dJx4a65c_fastRemove_b59b0_14 : decode cJx4a65c_fastRemove_b59b0 14 = .ok (.iconst 1, 1) := by decide +kernel
theorem dJx4a65c_fastRemove_b59b0_15 : decode cJx4a65c_fastRemove_b59b0 15 = .ok (.isub, 1) := by decide +kernel
theorem dJx4a65c_fastRemove_b59b0_16 : decode cJx4a65c_fastRemove_b59b0 16 = .ok (.dup, 1) := by decide +kernel
theorem dJx4a65c_fastRemove_b59b0_17 : decode cJx4a65c_fastRemove_b59b0 17 = .ok (.istore_n 3, 1) := by decide +kernel
theorem dJx4a65c_fastRemove_b59b0_18 : decode cJx4a65c_fastRemove_b59b0 18 = .ok (.iload_n 2, 1) := by decide +kernel
theorem dJx4a65c_fastRemove_b59b0_19 : decode cJx4a65c_fastRemove_b59b0 19 = .ok (.if_icmp .le 15, 3) := by decide +kernel
theorem dJx4a65c_fastRemove_b59b0_22 : decode cJx4a65c_fastRemove_b59b0 22 = .ok (.aload_n 1, 1) := by decide +kernel
theorem dJx4a65c_fastRemove_b59b0_23 : decode cJx4a65c_fastRemove_b59b0 23 = .ok (.iload_n 2, 1) := by decide +kernel
theorem dJx4a65c_fastRemove_b59b0_24 : decode cJx4a65c_fastRemove_b59b0 24 = .ok (.iconst 1, 1) := by decide +kernel
theorem dJx4a65c_fastRemove_b59b0_25 : decode cJx4a65c_fastRemove_b59b0 25 = .ok (.iadd, 1) := by decide +kernel
theorem dJx4a65c_fastRemove_b59b0_26 : decode cJx4a65c_fastRemove_b59b0 26 = .ok (.aload_n 1, 1) := by decide +kernel
theorem dJx4a65c_fastRemove_b59b0_27 : decode cJx4a65c_fastRemove_b59b0 27 = .ok (.iload_n 2, 1) := by decide +kernel
theorem dJx4a65c_fastRemove_b59b0_28 : decode cJx4a65c_fastRemove_b59b0 28 = .ok (.iload_n 3, 1) := by decide +kernel
theorem dJx4a65c_fastRemove_b59b0_29 : decode cJx4a65c_fastRemove_b59b0 29 = .ok (.iload_n 2, 1) := by decide +kernel
theorem dJx4a65c_fastRemove_b59b0_30 : decode cJx4a65c_fastRemove_b59b0 30 = .ok (.isub, 1) := by decide +kernel
theorem dJx4a65c_fastRemove_b59b0_31 : decode cJx4a65c_fastRemove_b59b0 31 = .ok (.invokestatic 112, 3) := by decide +kernel
theorem dJx4a65c_fastRemove_b59b0_34 : decode cJx4a65c_fastRemove_b59b0 34 = .ok (.aload_n 1, 1) := by decide +kernel
theorem dJx4a65c_fastRemove_b59b0_35 : decode cJx4a65c_fastRemove_b59b0 35 = .ok (.aload_n 0, 1) := by decide +kernel
theorem dJx4a65c_fastRemove_b59b0_36 : decode cJx4a65c_fastRemove_b59b0 36 = .ok (.iload_n 3, 1) := by decide +kernel
theorem dJx4a65c_fastRemove_b59b0_37 : decode cJx4a65c_fastRemove_b59b0 37 = .ok (.dup_x1, 1) := by decide +kernel
theorem dJx4a65c_fastRemove_b59b0_38 : decode cJx4a65c_fastRemove_b59b0 38 = .ok (.putfield 48, 3) := by decide +kernel
theorem dJx4a65c_fastRemove_b59b0_41 : decode cJx4a65c_fastRemove_b59b0 41 = .ok (.aconst_null, 1) := by decide +kernel
theorem dJx4a65c_fastRemove_b59b0_42 : decode cJx4a65c_fastRemove_b59b0 42 = .ok (.aastore, 1) := by decide +kernel
theorem dJx4a65c_fastRemove_b59b0_43 : decode cJx4a65c_fastRemove_b59b0 43 = .ok (.return_, 1) := by decide +kernel
theorem dJ7_copyOf_1904c_0 : decode cJ7_copyOf_1904c 0 = .ok (.aload_n 0, 1) := by decide +kernel
theorem dJ7_copyOf_1904c_1 : decode cJ7_copyOf_1904c 1 = .ok (.iload_n 1, 1) := by decide +kernel
theorem dJ7_copyOf_1904c_2 : decode cJ7_copyOf_1904c 2 = .ok (.aload_n 0, 1) := by decide +kernel
theorem dJ7_copyOf_1904c_3 : decode cJ7_copyOf_1904c 3 = .ok (.invokevirtual 86, 3) := by decide +kernel
theorem dJ7_copyOf_1904c_6 : decode cJ7_copyOf_1904c 6 = .ok (.invokestatic 300, 3) := by decide +kernel
theorem dJ7_copyOf_1904c_9 : decode cJ7_copyOf_1904c 9 = .ok (.areturn, 1) := by decide +kernel
theorem dJ7_copyOf_6403c_0 : decode cJ7_copyOf_6403c 0 = .ok (.aload_n 2, 1) := by decide +kernel
theorem dJ7_copyOf_6403c_1 : decode cJ7_copyOf_6403c 1 = .ok (.ldc 110, 2) := by decide +kernel
theorem dJ7_copyOf_6403c_3 : decode cJ7_copyOf_6403c 3 = .ok (.if_acmp .ne 10, 3) := by decide +kernel
theorem dJ7_copyOf_6403c_6 : decode cJ7_copyOf_6403c 6 = .ok (.iload_n 1, 1) := by decide +kernel
theorem dJ7_copyOf_6403c_7 : decode cJ7_copyOf_6403c 7 = .ok (.anewarray 2, 3) := by decide +kernel
theorem dJ7_copyOf_6403c_10 : decode cJ7_copyOf_6403c 10 = .ok (.goto 14, 3) := by decide +kernel
theorem dJ7_copyOf_6403c_13 : decode cJ7_copyOf_6403c 13 = .ok (.aload_n 2, 1) := by decide +kernel
theorem dJ7_copyOf_6403c_14 : decode cJ7_copyOf_6403c 14 = .ok (.invokevirtual 90, 3) := by decide +kernel
theorem dJ7_copyOf_6403c_17 : decode cJ7_copyOf_6403c 17 = .ok (.iload_n 1, 1) := by decide +kernel
theorem dJ7_copyOf_6403c_18 : decode cJ7_copyOf_6403c 18 = .ok (.invokestatic 95, 3) := by decide +kernel
theorem dJ7_copyOf_6403c_21 : decode cJ7_copyOf_6403c 21 = .ok (.checkcast 110, 3) := by decide +kernel
theorem dJ7_copyOf_6403c_24 : decode cJ7_copyOf_6403c 24 = .ok (.astore_n 3, 1) := by decide +kernel
theorem dJ7_copyOf_6403c_25 : decode cJ7_copyOf_6403c 25 = .ok (.aload_n 0, 1) := by decide +kernel
theorem dJ7_copyOf_6403c_26 : decode cJ7_copyOf_6403c 26 = .ok (.iconst 0, 1) := by decide +kernel
theorem dJ7_copyOf_6403c_27 : decode cJ7_copyOf_6403c 27 = .ok (.aload_n 3, 1) := by decide +kernel
theorem dJ7_copyOf_6403c_28 : decode cJ7_copyOf_6403c 28 = .ok (.iconst 0, 1) := by decide +kernel
theorem dJ7_copyOf_6403c_29 : decode cJ7_copyOf_6403c 29 = .ok (.aload_n 0, 1) := by decide +kernel
theorem dJ7_copyOf_6403c_30 : decode cJ7_copyOf_6403c 30 = .ok (.arraylength, 1) := by decide +kernel
theorem dJ7_copyOf_6403c_31 : decode cJ7_copyOf_6403c 31 = .ok (.iload_n 1, 1) := by decide +kernel
theorem dJ7_copyOf_6403c_32 : decode cJ7_copyOf_6403c 32 = .ok (.invokestatic 304, 3) := by decide +kernel
theorem dJ7_copyOf_6403c_35 : decode cJ7_copyOf_6403c 35 = .ok (.invokestatic 150, 3) := by decide +kernel
theorem dJ7_copyOf_6403c_38 : decode cJ7_copyOf_6403c 38 = .ok (.aload_n 3, 1) := by decide +kernel
theorem dJ7_copyOf_6403c_39 : decode cJ7_copyOf_6403c 39 = .ok (.areturn, 1) := by decide +kernel
theorem dJ15_checkIndex_7cf53_0 : decode cJ15_checkIndex_7cf53 0 = .ok (.iload_n 0, 1) := by decide +kernel
theorem dJ15_checkIndex_7cf53_1 : decode cJ15_checkIndex_7cf53 1 = .ok (.iload_n 1, 1) := by decide +kernel
theorem dJ15_checkIndex_7cf53_2 : decode cJ15_checkIndex_7cf53 2 = .ok (.aconst_null, 1) := by decide +kernel
theorem dJ15_checkIndex_7cf53_3 : decode cJ15_checkIndex_7cf53 3 = .ok (.invokestatic 105, 3) := by decide +kernel
theorem dJ15_checkIndex_7cf53_6 : decode cJ15_checkIndex_7cf53 6 = .ok (.ireturn, 1) := by decide +kernel
theorem dJ8_newLength_cabcc_0 : decode cJ8_newLength_cabcc 0 = .ok (.iload_n 0, 1) := by decide +kernel
theorem dJ8_newLength_cabcc_1 : decode cJ8_newLength_cabcc 1 = .ok (.iload_n 1, 1) := by decide +kernel
theorem dJ8_newLength_cabcc_2 : decode cJ8_newLength_cabcc 2 = .ok (.iload_n 2, 1) := by decide +kernel
theorem dJ8_newLength_cabcc_3 : decode cJ8_newLength_cabcc 3 = .ok (.invokestatic 194, 3) := by decide +kernel
theorem dJ8_newLength_cabcc_6 : decode cJ8_newLength_cabcc 6 = .ok (.iadd, 1) := by decide +kernel
theorem dJ8_newLength_cabcc_7 : decode cJ8_newLength_cabcc 7 = .ok (.istore_n 3, 1) := by decide +kernel
theorem dJ8_newLength_cabcc_8 : decode cJ8_newLength_cabcc 8 = .ok (.iconst 0, 1) := by decide +kernel
theorem dJ8_newLength_cabcc_9 : decode cJ8_newLength_cabcc 9 = .ok (.iload_n 3, 1) := by decide +kernel
theorem dJ8_newLength_cabcc_10 : decode cJ8_newLength_cabcc 10 = .ok (.if_icmp .ge 11, 3) := by decide +kernel
theorem dJ8_newLength_cabcc_13 : decode cJ8_newLength_cabcc 13 = .ok (.iload_n 3, 1) := by decide +kernel
theorem dJ8_newLength_cabcc_14 : decode cJ8_newLength_cabcc 14 = .ok (.ldc 200, 2) := by decide +kernel
theorem dJ8_newLength_cabcc_16 : decode cJ8_newLength_cabcc 16 = .ok (.if_icmp .gt 5, 3) := by decide +kernel
theorem dJ8_newLength_cabcc_19 : decode cJ8_newLength_cabcc 19 = .ok (.iload_n 3, 1) := by decide +kernel
theorem dJ8_newLength_cabcc_20 : decode cJ8_newLength_cabcc 20 = .ok (.ireturn, 1) := by decide +kernel
theorem dJ8_newLength_cabcc_21 : decode cJ8_newLength_cabcc 21 = .ok (.iload_n 0, 1) := by decide +kernel
theorem dJ8_newLength_cabcc_22 : decode cJ8_newLength_cabcc 22 = .ok (.iload_n 1, 1) := by decide +kernel
theorem dJ8_newLength_cabcc_23 : decode cJ8_newLength_cabcc 23 = .ok (.invokestatic 201, 3) := by decide +kernel
theorem dJ8_newLength_cabcc_26 : decode cJ8_newLength_cabcc 26 = .ok (.ireturn, 1) := by decide +kernel
theorem dJ8_hugeLength_7cf53_0 : decode cJ8_hugeLength_7cf53 0 = .ok (.iload_n 0, 1) := by decide +kernel
theorem dJ8_hugeLength_7cf53_1 : decode cJ8_hugeLength_7cf53 1 = .ok (.iload_n 1, 1) := by decide +kernel
theorem dJ8_hugeLength_7cf53_2 : decode cJ8_hugeLength_7cf53 2 = .ok (.iadd, 1) := by decide +kernel
theorem dJ8_hugeLength_7cf53_3 : decode cJ8_hugeLength_7cf53 3 = .ok (.istore_n 2, 1) := by decide +kernel
theorem dJ8_hugeLength_7cf53_4 : decode cJ8_hugeLength_7cf53 4 = .ok (.iload_n 2, 1) := by decide +kernel
theorem dJ8_hugeLength_7cf53_5 : decode cJ8_hugeLength_7cf53 5 = .ok (.ifCond .ge 44, 3) := by decide +kernel
theorem dJ8_hugeLength_7cf53_8 : decode cJ8_hugeLength_7cf53 8 = .ok (.new 204, 3) := by decide +kernel
theorem dJ8_hugeLength_7cf53_11 : decode cJ8_hugeLength_7cf53 11 = .ok (.dup, 1) := by decide +kernel
theorem dJ8_hugeLength_7cf53_12 : decode cJ8_hugeLength_7cf53 12 = .ok (.new 89, 3) := by decide +kernel
theorem dJ8_hugeLength_7cf53_15 : decode cJ8_hugeLength_7cf53 15 = .ok (.dup, 1) := by decide +kernel
theorem dJ8_hugeLength_7cf53_16 : decode cJ8_hugeLength_7cf53 16 = .ok (.invokespecial 91, 3) := by decide +kernel
theorem dJ8_hugeLength_7cf53_19 : decode cJ8_hugeLength_7cf53 19 = .ok (.ldc 206, 2) := by decide +kernel
theorem dJ8_hugeLength_7cf53_21 : decode cJ8_hugeLength_7cf53 21 = .ok (.invokevirtual 94, 3) := by decide +kernel
theorem dJ8_hugeLength_7cf53_24 : decode cJ8_hugeLength_7cf53 24 = .ok (.iload_n 0, 1) := by decide +kernel
theorem dJ8_hugeLength_7cf53_25 : decode cJ8_hugeLength_7cf53 25 = .ok (.invokevirtual 98, 3) := by decide +kernel
theorem dJ8_hugeLength_7cf53_28 : decode cJ8_hugeLength_7cf53 28 = .ok (.ldc 208, 2) := by decide +kernel
theorem dJ8_hugeLength_7cf53_30 : decode cJ8_hugeLength_7cf53 30 = .ok (.invokevirtual 94, 3) := by decide +kernel
theorem dJ8_hugeLength_7cf53_33 : decode cJ8_hugeLength_7cf53 33 = .ok (.iload_n 1, 1) := by decide +kernel
theorem dJ8_hugeLength_7cf53_34 : decode cJ8_hugeLength_7cf53 34 = .ok (.invokevirtual 98, 3) := by decide +kernel
theorem dJ8_hugeLength_7cf53_37 : decode cJ8_hugeLength_7cf53 37 = .ok (.ldc 210, 2) := by decide +kernel
theorem dJ8_hugeLength_7cf53_39 : decode cJ8_hugeLength_7cf53 39 = .ok (.invokevirtual 94, 3) := by decide +kernel
theorem dJ8_hugeLength_7cf53_42 : decode cJ8_hugeLength_7cf53 42 = .ok (.invokevirtual 101, 3) := by decide +kernel
theorem dJ8_hugeLength_7cf53_45 : decode cJ8_hugeLength_7cf53 45 = .ok (.invokespecial 212, 3) := by decide +kernel
theorem dJ8_hugeLength_7cf53_48 : decode cJ8_hugeLength_7cf53 48 = .ok (.athrow, 1) := by decide +kernel
theorem dJ8_hugeLength_7cf53_49 : decode cJ8_hugeLength_7cf53 49 = .ok (.iload_n 2, 1) := by decide +kernel
theorem dJ8_hugeLength_7cf53_50 : decode cJ8_hugeLength_7cf53 50 = .ok (.ldc 200, 2) := by decide +kernel
theorem dJ8_hugeLength_7cf53_52 : decode cJ8_hugeLength_7cf53 52 = .ok (.if_icmp .gt 6, 3) := by decide +kernel
theorem dJ8_hugeLength_7cf53_55 : decode cJ8_hugeLength_7cf53 55 = .ok (.ldc 200, 2) := by decide +kernel
theorem dJ8_hugeLength_7cf53_57 : decode cJ8_hugeLength_7cf53 57 = .ok (.ireturn, 1) := by decide +kernel
theorem dJ8_hugeLength_7cf53_58 : decode cJ8_hugeLength_7cf53 58 = .ok (.iload_n 2, 1) := by decide +kernel
theorem dJ8_hugeLength_7cf53_59 : decode cJ8_hugeLength_7cf53 59 = .ok (.ireturn, 1) := by decide +kernel
theorem dJ3_checkIndex_8e157_0 : decode cJ3_checkIndex_8e157 0 = .ok (.iload_n 0, 1) := by decide +kernel
theorem dJ3_checkIndex_8e157_1 : decode cJ3_checkIndex_8e157 1 = .ok (.ifCond .lt 8, 3) := by decide +kernel
theorem dJ3_checkIndex_8e157_4 : decode cJ3_checkIndex_8e157 4 = .ok (.iload_n 0, 1) := by decide +kernel
theorem dJ3_checkIndex_8e157_5 : decode cJ3_checkIndex_8e157 5 = .ok (.iload_n 1, 1) := by decide +kernel
theorem dJ3_checkIndex_8e157_6 : decode cJ3_checkIndex_8e157 6 = .ok (.if_icmp .lt 10, 3) := by decide +kernel
theorem dJ3_checkIndex_8e157_9 : decode cJ3_checkIndex_8e157 9 = .ok (.aload_n 2, 1) := by decide +kernel
theorem dJ3_checkIndex_8e157_10 : decode cJ3_checkIndex_8e157 10 = .ok (.iload_n 0, 1) := by decide +kernel
theorem dJ3_checkIndex_8e157_11 : decode cJ3_checkIndex_8e157 11 = .ok (.iload_n 1, 1) := by decide +kernel
theorem dJ3_checkIndex_8e157_12 : decode cJ3_checkIndex_8e157 12 = .ok (.invokestatic 95, 3) := by decide +kernel
theorem dJ3_checkIndex_8e157_15 : decode cJ3_checkIndex_8e157 15 = .ok (.athrow, 1) := by decide +kernel
theorem dJ3_checkIndex_8e157_16 : decode cJ3_checkIndex_8e157 16 = .ok (.iload_n 0, 1) := by decide +kernel
theorem dJ3_checkIndex_8e157_17 : decode cJ3_checkIndex_8e157 17 = .ok (.ireturn, 1) := by decide +kernel
