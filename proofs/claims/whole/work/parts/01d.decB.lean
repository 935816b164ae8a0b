/-! decode rows -/
theorem dX11_init_0 : decode cX11_init 0 = .ok (.aload_n 0, 1) := by decide +kernel
theorem dX11_init_1 : decode cX11_init 1 = .ok (.invokespecial 1, 3) := by decide +kernel
theorem dX11_init_4 : decode cX11_init 4 = .ok (.aload_n 0, 1) := by decide +kernel
theorem dX11_init_5 : decode cX11_init 5 = .ok (.new 7, 3) := by decide +kernel
theorem dX11_init_8 : decode cX11_init 8 = .ok (.dup, 1) := by decide +kernel
theorem dX11_init_9 : decode cX11_init 9 = .ok (.sipush 2000, 3) := by decide +kernel
theorem dX11_init_12 : decode cX11_init 12 = .ok (.invokespecial 11, 3) := by decide +kernel
theorem dX11_init_15 : decode cX11_init 15 = .ok (.putfield 14, 3) := by decide +kernel
theorem dX11_init_18 : decode cX11_init 18 = .ok (.aload_n 0, 1) := by decide +kernel
theorem dX11_init_19 : decode cX11_init 19 = .ok (.new 7, 3) := by decide +kernel
theorem dX11_init_22 : decode cX11_init 22 = .ok (.dup, 1) := by decide +kernel
theorem dX11_init_23 : decode cX11_init 23 = .ok (.sipush 6200, 3) := by decide +kernel
theorem dX11_init_26 : decode cX11_init 26 = .ok (.invokespecial 11, 3) := by decide +kernel
theorem dX11_init_29 : decode cX11_init 29 = .ok (.putfield 18, 3) := by decide +kernel
theorem dX11_init_32 : decode cX11_init 32 = .ok (.aload_n 0, 1) := by decide +kernel
theorem dX11_init_33 : decode cX11_init 33 = .ok (.new 21, 3) := by decide +kernel
theorem dX11_init_36 : decode cX11_init 36 = .ok (.dup, 1) := by decide +kernel
theorem dX11_init_37 : decode cX11_init 37 = .ok (.invokespecial 23, 3) := by decide +kernel
theorem dX11_init_40 : decode cX11_init 40 = .ok (.putfield 24, 3) := by decide +kernel
theorem dX11_init_43 : decode cX11_init 43 = .ok (.aload_n 0, 1) := by decide +kernel
theorem dX11_init_44 : decode cX11_init 44 = .ok (.new 28, 3) := by decide +kernel
theorem dX11_init_47 : decode cX11_init 47 = .ok (.dup, 1) := by decide +kernel
theorem dX11_init_48 : decode cX11_init 48 = .ok (.invokespecial 30, 3) := by decide +kernel
theorem dX11_init_51 : decode cX11_init 51 = .ok (.putfield 31, 3) := by decide +kernel
theorem dX11_init_54 : decode cX11_init 54 = .ok (.aload_n 0, 1) := by decide +kernel
theorem dX11_init_55 : decode cX11_init 55 = .ok (.new 35, 3) := by decide +kernel
theorem dX11_init_58 : decode cX11_init 58 = .ok (.dup, 1) := by decide +kernel
theorem dX11_init_59 : decode cX11_init 59 = .ok (.invokespecial 37, 3) := by decide +kernel
theorem dX11_init_62 : decode cX11_init 62 = .ok (.putfield 38, 3) := by decide +kernel
theorem dX11_init_65 : decode cX11_init 65 = .ok (.aload_n 0, 1) := by decide +kernel
theorem dX11_init_66 : decode cX11_init 66 = .ok (.new 42, 3) := by decide +kernel
theorem dX11_init_69 : decode cX11_init 69 = .ok (.dup, 1) := by decide +kernel
theorem dX11_init_70 : decode cX11_init 70 = .ok (.invokespecial 44, 3) := by decide +kernel
theorem dX11_init_73 : decode cX11_init 73 = .ok (.putfield 45, 3) := by decide +kernel
theorem dX11_init_76 : decode cX11_init 76 = .ok (.aload_n 0, 1) := by decide +kernel
theorem dX11_init_77 : decode cX11_init 77 = .ok (.new 42, 3) := by decide +kernel
theorem dX11_init_80 : decode cX11_init 80 = .ok (.dup, 1) := by decide +kernel
theorem dX11_init_81 : decode cX11_init 81 = .ok (.invokespecial 44, 3) := by decide +kernel
theorem dX11_init_84 : decode cX11_init 84 = .ok (.putfield 49, 3) := by decide +kernel
theorem dX11_init_87 : decode cX11_init 87 = .ok (.aload_n 0, 1) := by decide +kernel
theorem dX11_init_88 : decode cX11_init 88 = .ok (.new 42, 3) := by decide +kernel
theorem dX11_init_91 : decode cX11_init 91 = .ok (.dup, 1) := by decide +kernel
theorem dX11_init_92 : decode cX11_init 92 = .ok (.invokespecial 44, 3) := by decide +kernel
theorem dX11_init_95 : decode cX11_init 95 = .ok (.putfield 52, 3) := by decide +kernel
theorem dX11_init_98 : decode cX11_init 98 = .ok (.aload_n 0, 1) := by decide +kernel
theorem dX11_init_99 : decode cX11_init 99 = .ok (.new 42, 3) := by decide +kernel
theorem dX11_init_102 : decode cX11_init 102 = .ok (.dup, 1) := by decide +kernel
theorem dX11_init_103 : decode cX11_init 103 = .ok (.invokespecial 44, 3) := by decide +kernel
theorem dX11_init_106 : decode cX11_init 106 = .ok (.putfield 55, 3) := by decide +kernel
theorem dX11_init_109 : decode cX11_init 109 = .ok (.aload_n 0, 1) := by decide +kernel
theorem dX11_init_110 : decode cX11_init 110 = .ok (.new 42, 3) := by decide +kernel
theorem dX11_init_113 : decode cX11_init 113 = .ok (.dup, 1) := by decide +kernel
theorem dX11_init_114 : decode cX11_init 114 = .ok (.invokespecial 44, 3) := by decide +kernel
theorem dX11_init_117 : decode cX11_init 117 = .ok (.putfield 58, 3) := by decide +kernel
theorem dX11_init_120 : decode cX11_init 120 = .ok (.aload_n 0, 1) := by decide +kernel
theorem dX11_init_121 : decode cX11_init 121 = .ok (.new 42, 3) := by decide +kernel
theorem dX11_init_124 : decode cX11_init 124 = .ok (.dup, 1) := by decide +kernel
theorem dX11_init_125 : decode cX11_init 125 = .ok (.invokespecial 44, 3) := by decide +kernel
theorem dX11_init_128 : decode cX11_init 128 = .ok (.putfield 61, 3) := by decide +kernel
theorem dX11_init_131 : decode cX11_init 131 = .ok (.aload_n 0, 1) := by decide +kernel
theorem dX11_init_132 : decode cX11_init 132 = .ok (.new 42, 3) := by decide +kernel
theorem dX11_init_135 : decode cX11_init 135 = .ok (.dup, 1) := by decide +kernel
theorem dX11_init_136 : decode cX11_init 136 = .ok (.invokespecial 44, 3) := by decide +kernel
theorem dX11_init_139 : decode cX11_init 139 = .ok (.putfield 64, 3) := by decide +kernel
theorem dX11_init_142 : decode cX11_init 142 = .ok (.aload_n 0, 1) := by decide +kernel
theorem dX11_init_143 : decode cX11_init 143 = .ok (.bipush 60, 2) := by decide +kernel
theorem dX11_init_145 : decode cX11_init 145 = .ok (.putfield 67, 3) := by decide +kernel
theorem dX11_init_148 : decode cX11_init 148 = .ok (.aload_n 0, 1) := by decide +kernel
theorem dX11_init_149 : decode cX11_init 149 = .ok (.sipush 600, 3) := by decide +kernel
theorem dX11_init_152 : decode cX11_init 152 = .ok (.putfield 71, 3) := by decide +kernel
theorem dX11_init_155 : decode cX11_init 155 = .ok (.aload_n 0, 1) := by decide +kernel
theorem dX11_init_156 : decode cX11_init 156 = .ok (.sipush 10000, 3) := by decide +kernel
theorem dX11_init_159 : decode cX11_init 159 = .ok (.putfield 74, 3) := by decide +kernel
theorem dX11_init_162 : decode cX11_init 162 = .ok (.aload_n 0, 1) := by decide +kernel
theorem dX11_init_163 : decode cX11_init 163 = .ok (.iconst 0, 1) := by decide +kernel
theorem dX11_init_164 : decode cX11_init 164 = .ok (.putfield 77, 3) := by decide +kernel
theorem dX11_init_167 : decode cX11_init 167 = .ok (.aload_n 0, 1) := by decide +kernel
theorem dX11_init_168 : decode cX11_init 168 = .ok (.iconst 0, 1) := by decide +kernel
theorem dX11_init_169 : decode cX11_init 169 = .ok (.putfield 80, 3) := by decide +kernel
theorem dX11_init_172 : decode cX11_init 172 = .ok (.aload_n 0, 1) := by decide +kernel
theorem dX11_init_173 : decode cX11_init 173 = .ok (.iconst 0, 1) := by decide +kernel
theorem dX11_init_174 : decode cX11_init 174 = .ok (.putfield 83, 3) := by decide +kernel
theorem dX11_init_177 : decode cX11_init 177 = .ok (.return_, 1) := by decide +kernel
theorem dX11_feed_0 : decode cX11_feed 0 = .ok (.aload_n 0, 1) := by decide +kernel
theorem dX11_feed_1 : decode cX11_feed 1 = .ok (.getfield 14, 3) := by decide +kernel
theorem dX11_feed_4 : decode cX11_feed 4 = .ok (.invokevirtual 86, 3) := by decide +kernel
theorem dX11_feed_7 : decode cX11_feed 7 = .ok (.bipush 20, 2) := by decide +kernel
theorem dX11_feed_9 : decode cX11_feed 9 = .ok (.iadd, 1) := by decide +kernel
theorem dX11_feed_10 : decode cX11_feed 10 = .ok (.sipush 2000, 3) := by decide +kernel
theorem dX11_feed_13 : decode cX11_feed 13 = .ok (.if_icmp .le 5, 3) := by decide +kernel
theorem dX11_feed_16 : decode cX11_feed 16 = .ok (.iconst (-1), 1) := by decide +kernel
theorem dX11_feed_17 : decode cX11_feed 17 = .ok (.ireturn, 1) := by decide +kernel
theorem dX11_feed_18 : decode cX11_feed 18 = .ok (.aload_n 0, 1) := by decide +kernel
theorem dX11_feed_19 : decode cX11_feed 19 = .ok (.getfield 14, 3) := by decide +kernel
theorem dX11_feed_22 : decode cX11_feed 22 = .ok (.iload_n 1, 1) := by decide +kernel
theorem dX11_feed_23 : decode cX11_feed 23 = .ok (.invokevirtual 90, 3) := by decide +kernel
theorem dX11_feed_26 : decode cX11_feed 26 = .ok (.aload_n 0, 1) := by decide +kernel
theorem dX11_feed_27 : decode cX11_feed 27 = .ok (.getfield 14, 3) := by decide +kernel
theorem dX11_feed_30 : decode cX11_feed 30 = .ok (.iload_n 2, 1) := by decide +kernel
theorem dX11_feed_31 : decode cX11_feed 31 = .ok (.invokevirtual 90, 3) := by decide +kernel
theorem dX11_feed_34 : decode cX11_feed 34 = .ok (.aload_n 0, 1) := by decide +kernel
theorem dX11_feed_35 : decode cX11_feed 35 = .ok (.getfield 14, 3) := by decide +kernel
theorem dX11_feed_38 : decode cX11_feed 38 = .ok (.iload_n 3, 1) := by decide +kernel
theorem dX11_feed_39 : decode cX11_feed 39 = .ok (.invokevirtual 90, 3) := by decide +kernel
theorem dX11_feed_42 : decode cX11_feed 42 = .ok (.aload_n 0, 1) := by decide +kernel
theorem dX11_feed_43 : decode cX11_feed 43 = .ok (.getfield 14, 3) := by decide +kernel
theorem dX11_feed_46 : decode cX11_feed 46 = .ok (.iload 4, 2) := by decide +kernel
theorem dX11_feed_48 : decode cX11_feed 48 = .ok (.invokevirtual 90, 3) := by decide +kernel
theorem dX11_feed_51 : decode cX11_feed 51 = .ok (.aload_n 0, 1) := by decide +kernel
theorem dX11_feed_52 : decode cX11_feed 52 = .ok (.getfield 14, 3) := by decide +kernel
theorem dX11_feed_55 : decode cX11_feed 55 = .ok (.iload 5, 2) := by decide +kernel
theorem dX11_feed_57 : decode cX11_feed 57 = .ok (.invokevirtual 90, 3) := by decide +kernel
theorem dX11_feed_60 : decode cX11_feed 60 = .ok (.aload_n 0, 1) := by decide +kernel
theorem dX11_feed_61 : decode cX11_feed 61 = .ok (.getfield 14, 3) := by decide +kernel
theorem dX11_feed_64 : decode cX11_feed 64 = .ok (.invokevirtual 86, 3) := by decide +kernel
theorem dX11_feed_67 : decode cX11_feed 67 = .ok (.ireturn, 1) := by decide +kernel
theorem dX11_end_0 : decode cX11_end 0 = .ok (.aload_n 0, 1) := by decide +kernel
theorem dX11_end_1 : decode cX11_end 1 = .ok (.getfield 14, 3) := by decide +kernel
theorem dX11_end_4 : decode cX11_end 4 = .ok (.iload_n 1, 1) := by decide +kernel
theorem dX11_end_5 : decode cX11_end 5 = .ok (.invokevirtual 93, 3) := by decide +kernel
theorem dX11_end_8 : decode cX11_end 8 = .ok (.ireturn, 1) := by decide +kernel
theorem dX11_again_0 : decode cX11_again 0 = .ok (.iload_n 1, 1) := by decide +kernel
theorem dX11_again_1 : decode cX11_again 1 = .ok (.ifCond .lt 31, 3) := by decide +kernel
theorem dX11_again_4 : decode cX11_again 4 = .ok (.iload_n 2, 1) := by decide +kernel
theorem dX11_again_5 : decode cX11_again 5 = .ok (.ifCond .lt 27, 3) := by decide +kernel
theorem dX11_again_8 : decode cX11_again 8 = .ok (.iload_n 2, 1) := by decide +kernel
theorem dX11_again_9 : decode cX11_again 9 = .ok (.aload_n 0, 1) := by decide +kernel
theorem dX11_again_10 : decode cX11_again 10 = .ok (.getfield 18, 3) := by decide +kernel
theorem dX11_again_13 : decode cX11_again 13 = .ok (.invokevirtual 86, 3) := by decide +kernel
theorem dX11_again_16 : decode cX11_again 16 = .ok (.if_icmp .gt 16, 3) := by decide +kernel
theorem dX11_again_19 : decode cX11_again 19 = .ok (.iload_n 1, 1) := by decide +kernel
theorem dX11_again_20 : decode cX11_again 20 = .ok (.aload_n 0, 1) := by decide +kernel
theorem dX11_again_21 : decode cX11_again 21 = .ok (.getfield 18, 3) := by decide +kernel
theorem dX11_again_24 : decode cX11_again 24 = .ok (.invokevirtual 86, 3) := by decide +kernel
theorem dX11_again_27 : decode cX11_again 27 = .ok (.iload_n 2, 1) := by decide +kernel
theorem dX11_again_28 : decode cX11_again 28 = .ok (.isub, 1) := by decide +kernel
theorem dX11_again_29 : decode cX11_again 29 = .ok (.if_icmp .le 5, 3) := by decide +kernel
theorem dX11_again_32 : decode cX11_again 32 = .ok (.iconst (-1), 1) := by decide +kernel
theorem dX11_again_33 : decode cX11_again 33 = .ok (.ireturn, 1) := by decide +kernel
theorem dX11_again_34 : decode cX11_again 34 = .ok (.iload_n 2, 1) := by decide +kernel
theorem dX11_again_35 : decode cX11_again 35 = .ok (.sipush 2000, 3) := by decide +kernel
theorem dX11_again_38 : decode cX11_again 38 = .ok (.aload_n 0, 1) := by decide +kernel
theorem dX11_again_39 : decode cX11_again 39 = .ok (.getfield 14, 3) := by decide +kernel
theorem dX11_again_42 : decode cX11_again 42 = .ok (.invokevirtual 86, 3) := by decide +kernel
theorem dX11_again_45 : decode cX11_again 45 = .ok (.isub, 1) := by decide +kernel
theorem dX11_again_46 : decode cX11_again 46 = .ok (.if_icmp .le 5, 3) := by decide +kernel
theorem dX11_again_49 : decode cX11_again 49 = .ok (.iconst (-1), 1) := by decide +kernel
theorem dX11_again_50 : decode cX11_again 50 = .ok (.ireturn, 1) := by decide +kernel
theorem dX11_again_51 : decode cX11_again 51 = .ok (.aload_n 0, 1) := by decide +kernel
theorem dX11_again_52 : decode cX11_again 52 = .ok (.getfield 14, 3) := by decide +kernel
theorem dX11_again_55 : decode cX11_again 55 = .ok (.aload_n 0, 1) := by decide +kernel
theorem dX11_again_56 : decode cX11_again 56 = .ok (.getfield 18, 3) := by decide +kernel
theorem dX11_again_59 : decode cX11_again 59 = .ok (.iload_n 1, 1) := by decide +kernel
theorem dX11_again_60 : decode cX11_again 60 = .ok (.iload_n 2, 1) := by decide +kernel
theorem dX11_again_61 : decode cX11_again 61 = .ok (.invokevirtual 97, 3) := by decide +kernel
theorem dX11_again_64 : decode cX11_again 64 = .ok (.aload_n 0, 1) := by decide +kernel
theorem dX11_again_65 : decode cX11_again 65 = .ok (.getfield 14, 3) := by decide +kernel
theorem dX11_again_68 : decode cX11_again 68 = .ok (.invokevirtual 86, 3) := by decide +kernel
theorem dX11_again_71 : decode cX11_again 71 = .ok (.ireturn, 1) := by decide +kernel
theorem dX11_scope_0 : decode cX11_scope 0 = .ok (.aload_n 0, 1) := by decide +kernel
theorem dX11_scope_1 : decode cX11_scope 1 = .ok (.getfield 14, 3) := by decide +kernel
theorem dX11_scope_4 : decode cX11_scope 4 = .ok (.invokestatic 101, 3) := by decide +kernel
theorem dX11_scope_7 : decode cX11_scope 7 = .ok (.ifCond .eq 21, 3) := by decide +kernel
theorem dX11_scope_10 : decode cX11_scope 10 = .ok (.aload_n 0, 1) := by decide +kernel
theorem dX11_scope_11 : decode cX11_scope 11 = .ok (.getfield 14, 3) := by decide +kernel
theorem dX11_scope_14 : decode cX11_scope 14 = .ok (.iconst 0, 1) := by decide +kernel
theorem dX11_scope_15 : decode cX11_scope 15 = .ok (.aload_n 0, 1) := by decide +kernel
theorem dX11_scope_16 : decode cX11_scope 16 = .ok (.getfield 14, 3) := by decide +kernel
theorem dX11_scope_19 : decode cX11_scope 19 = .ok (.invokevirtual 86, 3) := by decide +kernel
theorem dX11_scope_22 : decode cX11_scope 22 = .ok (.invokevirtual 105, 3) := by decide +kernel
theorem dX11_scope_25 : decode cX11_scope 25 = .ok (.goto 4, 3) := by decide +kernel
theorem dX11_scope_28 : decode cX11_scope 28 = .ok (.aconst_null, 1) := by decide +kernel
theorem dX11_scope_29 : decode cX11_scope 29 = .ok (.astore_n 1, 1) := by decide +kernel
theorem dX11_scope_30 : decode cX11_scope 30 = .ok (.aload_n 0, 1) := by decide +kernel
theorem dX11_scope_31 : decode cX11_scope 31 = .ok (.getfield 14, 3) := by decide +kernel
theorem dX11_scope_34 : decode cX11_scope 34 = .ok (.invokevirtual 109, 3) := by decide +kernel
theorem dX11_scope_37 : decode cX11_scope 37 = .ok (.aload_n 1, 1) := by decide +kernel
theorem dX11_scope_38 : decode cX11_scope 38 = .ok (.ifnull 17, 3) := by decide +kernel
theorem dX11_scope_41 : decode cX11_scope 41 = .ok (.aload_n 0, 1) := by decide +kernel
theorem dX11_scope_42 : decode cX11_scope 42 = .ok (.aload_n 1, 1) := by decide +kernel
theorem dX11_scope_43 : decode cX11_scope 43 = .ok (.iconst 0, 1) := by decide +kernel
theorem dX11_scope_44 : decode cX11_scope 44 = .ok (.aload_n 1, 1) := by decide +kernel
theorem dX11_scope_45 : decode cX11_scope 45 = .ok (.invokevirtual 86, 3) := by decide +kernel
theorem dX11_scope_48 : decode cX11_scope 48 = .ok (.invokevirtual 112, 3) := by decide +kernel
theorem dX11_scope_51 : decode cX11_scope 51 = .ok (.iconst (-1), 1) := by decide +kernel
theorem dX11_scope_52 : decode cX11_scope 52 = .ok (.if_icmp .eq 13, 3) := by decide +kernel
theorem dX11_scope_55 : decode cX11_scope 55 = .ok (.new 116, 3) := by decide +kernel
theorem dX11_scope_58 : decode cX11_scope 58 = .ok (.dup, 1) := by decide +kernel
theorem dX11_scope_59 : decode cX11_scope 59 = .ok (.ldc 118, 2) := by decide +kernel
theorem dX11_scope_61 : decode cX11_scope 61 = .ok (.invokespecial 120, 3) := by decide +kernel
theorem dX11_scope_64 : decode cX11_scope 64 = .ok (.athrow, 1) := by decide +kernel
theorem dX11_scope_65 : decode cX11_scope 65 = .ok (.aload_n 0, 1) := by decide +kernel
theorem dX11_scope_66 : decode cX11_scope 66 = .ok (.getfield 45, 3) := by decide +kernel
theorem dX11_scope_69 : decode cX11_scope 69 = .ok (.invokevirtual 123, 3) := by decide +kernel
theorem dX11_scope_72 : decode cX11_scope 72 = .ok (.bipush 8, 2) := by decide +kernel
theorem dX11_scope_74 : decode cX11_scope 74 = .ok (.if_icmp .lt 13, 3) := by decide +kernel
theorem dX11_scope_77 : decode cX11_scope 77 = .ok (.new 124, 3) := by decide +kernel
theorem dX11_scope_80 : decode cX11_scope 80 = .ok (.dup, 1) := by decide +kernel
theorem dX11_scope_81 : decode cX11_scope 81 = .ok (.ldc 126, 2) := by decide +kernel
theorem dX11_scope_83 : decode cX11_scope 83 = .ok (.invokespecial 128, 3) := by decide +kernel
theorem dX11_scope_86 : decode cX11_scope 86 = .ok (.athrow, 1) := by decide +kernel
theorem dX11_scope_87 : decode cX11_scope 87 = .ok (.aload_n 0, 1) := by decide +kernel
theorem dX11_scope_88 : decode cX11_scope 88 = .ok (.getfield 45, 3) := by decide +kernel
theorem dX11_scope_91 : decode cX11_scope 91 = .ok (.aload_n 1, 1) := by decide +kernel
theorem dX11_scope_92 : decode cX11_scope 92 = .ok (.invokevirtual 129, 3) := by decide +kernel
theorem dX11_scope_95 : decode cX11_scope 95 = .ok (.pop, 1) := by decide +kernel
theorem dX11_scope_96 : decode cX11_scope 96 = .ok (.aload_n 0, 1) := by decide +kernel
theorem dX11_scope_97 : decode cX11_scope 97 = .ok (.getfield 45, 3) := by decide +kernel
theorem dX11_scope_100 : decode cX11_scope 100 = .ok (.invokevirtual 123, 3) := by decide +kernel
theorem dX11_scope_103 : decode cX11_scope 103 = .ok (.iconst 1, 1) := by decide +kernel
theorem dX11_scope_104 : decode cX11_scope 104 = .ok (.isub, 1) := by decide +kernel
theorem dX11_scope_105 : decode cX11_scope 105 = .ok (.ireturn, 1) := by decide +kernel
theorem dX11_client_0 : decode cX11_client 0 = .ok (.aload_n 0, 1) := by decide +kernel
theorem dX11_client_1 : decode cX11_client 1 = .ok (.iload_n 1, 1) := by decide +kernel
theorem dX11_client_2 : decode cX11_client 2 = .ok (.iload_n 2, 1) := by decide +kernel
theorem dX11_client_3 : decode cX11_client 3 = .ok (.iload_n 3, 1) := by decide +kernel
theorem dX11_client_4 : decode cX11_client 4 = .ok (.invokevirtual 133, 3) := by decide +kernel
theorem dX11_client_7 : decode cX11_client 7 = .ok (.astore 4, 2) := by decide +kernel
theorem dX11_client_9 : decode cX11_client 9 = .ok (.aload_n 0, 1) := by decide +kernel
theorem dX11_client_10 : decode cX11_client 10 = .ok (.getfield 14, 3) := by decide +kernel
theorem dX11_client_13 : decode cX11_client 13 = .ok (.invokevirtual 109, 3) := by decide +kernel
theorem dX11_client_16 : decode cX11_client 16 = .ok (.aload 4, 2) := by decide +kernel
theorem dX11_client_18 : decode cX11_client 18 = .ok (.ifnull 23, 3) := by decide +kernel
theorem dX11_client_21 : decode cX11_client 21 = .ok (.aload_n 0, 1) := by decide +kernel
theorem dX11_client_22 : decode cX11_client 22 = .ok (.iload_n 2, 1) := by decide +kernel
theorem dX11_client_23 : decode cX11_client 23 = .ok (.invokevirtual 137, 3) := by decide +kernel
theorem dX11_client_26 : decode cX11_client 26 = .ok (.ifCond .eq 15, 3) := by decide +kernel
theorem dX11_client_29 : decode cX11_client 29 = .ok (.aload_n 0, 1) := by decide +kernel
theorem dX11_client_30 : decode cX11_client 30 = .ok (.aload 4, 2) := by decide +kernel
theorem dX11_client_32 : decode cX11_client 32 = .ok (.getfield 140, 3) := by decide +kernel
theorem dX11_client_35 : decode cX11_client 35 = .ok (.invokevirtual 145, 3) := by decide +kernel
theorem dX11_client_38 : decode cX11_client 38 = .ok (.ifnull 13, 3) := by decide +kernel
theorem dX11_client_41 : decode cX11_client 41 = .ok (.new 116, 3) := by decide +kernel
theorem dX11_client_44 : decode cX11_client 44 = .ok (.dup, 1) := by decide +kernel
theorem dX11_client_45 : decode cX11_client 45 = .ok (.ldc 149, 2) := by decide +kernel
theorem dX11_client_47 : decode cX11_client 47 = .ok (.invokespecial 120, 3) := by decide +kernel
theorem dX11_client_50 : decode cX11_client 50 = .ok (.athrow, 1) := by decide +kernel
theorem dX11_client_51 : decode cX11_client 51 = .ok (.aload_n 0, 1) := by decide +kernel
theorem dX11_client_52 : decode cX11_client 52 = .ok (.getfield 49, 3) := by decide +kernel
theorem dX11_client_55 : decode cX11_client 55 = .ok (.invokevirtual 123, 3) := by decide +kernel
theorem dX11_client_58 : decode cX11_client 58 = .ok (.bipush 8, 2) := by decide +kernel
theorem dX11_client_60 : decode cX11_client 60 = .ok (.if_icmp .lt 13, 3) := by decide +kernel
theorem dX11_client_63 : decode cX11_client 63 = .ok (.new 124, 3) := by decide +kernel
theorem dX11_client_66 : decode cX11_client 66 = .ok (.dup, 1) := by decide +kernel
theorem dX11_client_67 : decode cX11_client 67 = .ok (.ldc 151, 2) := by decide +kernel
theorem dX11_client_69 : decode cX11_client 69 = .ok (.invokespecial 128, 3) := by decide +kernel
theorem dX11_client_72 : decode cX11_client 72 = .ok (.athrow, 1) := by decide +kernel
theorem dX11_client_73 : decode cX11_client 73 = .ok (.aload_n 0, 1) := by decide +kernel
theorem dX11_client_74 : decode cX11_client 74 = .ok (.getfield 49, 3) := by decide +kernel
theorem dX11_client_77 : decode cX11_client 77 = .ok (.aload 4, 2) := by decide +kernel
theorem dX11_client_79 : decode cX11_client 79 = .ok (.invokevirtual 129, 3) := by decide +kernel
theorem dX11_client_82 : decode cX11_client 82 = .ok (.pop, 1) := by decide +kernel
theorem dX11_client_83 : decode cX11_client 83 = .ok (.aload_n 0, 1) := by decide +kernel
theorem dX11_client_84 : decode cX11_client 84 = .ok (.getfield 49, 3) := by decide +kernel
theorem dX11_client_87 : decode cX11_client 87 = .ok (.invokevirtual 123, 3) := by decide +kernel
theorem dX11_client_90 : decode cX11_client 90 = .ok (.iconst 1, 1) := by decide +kernel
theorem dX11_client_91 : decode cX11_client 91 = .ok (.isub, 1) := by decide +kernel
theorem dX11_client_92 : decode cX11_client 92 = .ok (.ireturn, 1) := by decide +kernel
theorem dX11_redirect_0 : decode cX11_redirect 0 = .ok (.aload_n 0, 1) := by decide +kernel
theorem dX11_redirect_1 : decode cX11_redirect 1 = .ok (.getfield 14, 3) := by decide +kernel
theorem dX11_redirect_4 : decode cX11_redirect 4 = .ok (.invokestatic 153, 3) := by decide +kernel
theorem dX11_redirect_7 : decode cX11_redirect 7 = .ok (.ifCond .eq 21, 3) := by decide +kernel
theorem dX11_redirect_10 : decode cX11_redirect 10 = .ok (.aload_n 0, 1) := by decide +kernel
theorem dX11_redirect_11 : decode cX11_redirect 11 = .ok (.getfield 14, 3) := by decide +kernel
theorem dX11_redirect_14 : decode cX11_redirect 14 = .ok (.iconst 0, 1) := by decide +kernel
theorem dX11_redirect_15 : decode cX11_redirect 15 = .ok (.aload_n 0, 1) := by decide +kernel
theorem dX11_redirect_16 : decode cX11_redirect 16 = .ok (.getfield 14, 3) := by decide +kernel
theorem dX11_redirect_19 : decode cX11_redirect 19 = .ok (.invokevirtual 86, 3) := by decide +kernel
theorem dX11_redirect_22 : decode cX11_redirect 22 = .ok (.invokevirtual 105, 3) := by decide +kernel
theorem dX11_redirect_25 : decode cX11_redirect 25 = .ok (.goto 4, 3) := by decide +kernel
theorem dX11_redirect_28 : decode cX11_redirect 28 = .ok (.aconst_null, 1) := by decide +kernel
theorem dX11_redirect_29 : decode cX11_redirect 29 = .ok (.astore_n 2, 1) := by decide +kernel
theorem dX11_redirect_30 : decode cX11_redirect 30 = .ok (.aload_n 0, 1) := by decide +kernel
theorem dX11_redirect_31 : decode cX11_redirect 31 = .ok (.getfield 14, 3) := by decide +kernel
theorem dX11_redirect_34 : decode cX11_redirect 34 = .ok (.invokevirtual 109, 3) := by decide +kernel
theorem dX11_redirect_37 : decode cX11_redirect 37 = .ok (.iload_n 1, 1) := by decide +kernel
theorem dX11_redirect_38 : decode cX11_redirect 38 = .ok (.ifCond .lt 14, 3) := by decide +kernel
theorem dX11_redirect_41 : decode cX11_redirect 41 = .ok (.iload_n 1, 1) := by decide +kernel
theorem dX11_redirect_42 : decode cX11_redirect 42 = .ok (.aload_n 0, 1) := by decide +kernel
theorem dX11_redirect_43 : decode cX11_redirect 43 = .ok (.getfield 49, 3) := by decide +kernel
theorem dX11_redirect_46 : decode cX11_redirect 46 = .ok (.invokevirtual 123, 3) := by decide +kernel
theorem dX11_redirect_49 : decode cX11_redirect 49 = .ok (.if_icmp .lt 13, 3) := by decide +kernel
theorem dX11_redirect_52 : decode cX11_redirect 52 = .ok (.new 156, 3) := by decide +kernel
theorem dX11_redirect_55 : decode cX11_redirect 55 = .ok (.dup, 1) := by decide +kernel
theorem dX11_redirect_56 : decode cX11_redirect 56 = .ok (.ldc 158, 2) := by decide +kernel
theorem dX11_redirect_58 : decode cX11_redirect 58 = .ok (.invokespecial 160, 3) := by decide +kernel
theorem dX11_redirect_61 : decode cX11_redirect 61 = .ok (.athrow, 1) := by decide +kernel
theorem dX11_redirect_62 : decode cX11_redirect 62 = .ok (.aload_n 2, 1) := by decide +kernel
theorem dX11_redirect_63 : decode cX11_redirect 63 = .ok (.ifnonnull 13, 3) := by decide +kernel
theorem dX11_redirect_66 : decode cX11_redirect 66 = .ok (.new 116, 3) := by decide +kernel
theorem dX11_redirect_69 : decode cX11_redirect 69 = .ok (.dup, 1) := by decide +kernel
theorem dX11_redirect_70 : decode cX11_redirect 70 = .ok (.ldc 161, 2) := by decide +kernel
theorem dX11_redirect_72 : decode cX11_redirect 72 = .ok (.invokespecial 120, 3) := by decide +kernel
theorem dX11_redirect_75 : decode cX11_redirect 75 = .ok (.athrow, 1) := by decide +kernel
theorem dX11_redirect_76 : decode cX11_redirect 76 = .ok (.aload_n 0, 1) := by decide +kernel
theorem dX11_redirect_77 : decode cX11_redirect 77 = .ok (.getfield 49, 3) := by decide +kernel
theorem dX11_redirect_80 : decode cX11_redirect 80 = .ok (.iload_n 1, 1) := by decide +kernel
theorem dX11_redirect_81 : decode cX11_redirect 81 = .ok (.invokevirtual 163, 3) := by decide +kernel
theorem dX11_redirect_84 : decode cX11_redirect 84 = .ok (.checkcast 141, 3) := by decide +kernel
theorem dX11_redirect_87 : decode cX11_redirect 87 = .ok (.astore_n 3, 1) := by decide +kernel
theorem dX11_redirect_88 : decode cX11_redirect 88 = .ok (.aload_n 3, 1) := by decide +kernel
theorem dX11_redirect_89 : decode cX11_redirect 89 = .ok (.getfield 167, 3) := by decide +kernel
theorem dX11_redirect_92 : decode cX11_redirect 92 = .ok (.invokevirtual 123, 3) := by decide +kernel
theorem dX11_redirect_95 : decode cX11_redirect 95 = .ok (.iconst 3, 1) := by decide +kernel
theorem dX11_redirect_96 : decode cX11_redirect 96 = .ok (.if_icmp .lt 13, 3) := by decide +kernel
theorem dX11_redirect_99 : decode cX11_redirect 99 = .ok (.new 124, 3) := by decide +kernel
theorem dX11_redirect_102 : decode cX11_redirect 102 = .ok (.dup, 1) := by decide +kernel
theorem dX11_redirect_103 : decode cX11_redirect 103 = .ok (.ldc 170, 2) := by decide +kernel
theorem dX11_redirect_105 : decode cX11_redirect 105 = .ok (.invokespecial 128, 3) := by decide +kernel
theorem dX11_redirect_108 : decode cX11_redirect 108 = .ok (.athrow, 1) := by decide +kernel
theorem dX11_redirect_109 : decode cX11_redirect 109 = .ok (.aload_n 3, 1) := by decide +kernel
theorem dX11_redirect_110 : decode cX11_redirect 110 = .ok (.getfield 167, 3) := by decide +kernel
theorem dX11_redirect_113 : decode cX11_redirect 113 = .ok (.aload_n 2, 1) := by decide +kernel
theorem dX11_redirect_114 : decode cX11_redirect 114 = .ok (.invokevirtual 129, 3) := by decide +kernel
theorem dX11_redirect_117 : decode cX11_redirect 117 = .ok (.pop, 1) := by decide +kernel
theorem dX11_redirect_118 : decode cX11_redirect 118 = .ok (.aload_n 3, 1) := by decide +kernel
theorem dX11_redirect_119 : decode cX11_redirect 119 = .ok (.getfield 167, 3) := by decide +kernel
theorem dX11_redirect_122 : decode cX11_redirect 122 = .ok (.invokevirtual 123, 3) := by decide +kernel
theorem dX11_redirect_125 : decode cX11_redirect 125 = .ok (.ireturn, 1) := by decide +kernel
theorem dX11_lives_0 : decode cX11_lives 0 = .ok (.iload_n 1, 1) := by decide +kernel
theorem dX11_lives_1 : decode cX11_lives 1 = .ok (.invokestatic 172, 3) := by decide +kernel
theorem dX11_lives_4 : decode cX11_lives 4 = .ok (.ifCond .eq 17, 3) := by decide +kernel
theorem dX11_lives_7 : decode cX11_lives 7 = .ok (.iload_n 2, 1) := by decide +kernel
theorem dX11_lives_8 : decode cX11_lives 8 = .ok (.invokestatic 172, 3) := by decide +kernel
theorem dX11_lives_11 : decode cX11_lives 11 = .ok (.ifCond .eq 10, 3) := by decide +kernel
theorem dX11_lives_14 : decode cX11_lives 14 = .ok (.iload_n 3, 1) := by decide +kernel
theorem dX11_lives_15 : decode cX11_lives 15 = .ok (.invokestatic 172, 3) := by decide +kernel
theorem dX11_lives_18 : decode cX11_lives 18 = .ok (.ifCond .ne 13, 3) := by decide +kernel
theorem dX11_lives_21 : decode cX11_lives 21 = .ok (.new 116, 3) := by decide +kernel
theorem dX11_lives_24 : decode cX11_lives 24 = .ok (.dup, 1) := by decide +kernel
theorem dX11_lives_25 : decode cX11_lives 25 = .ok (.ldc 175, 2) := by decide +kernel
theorem dX11_lives_27 : decode cX11_lives 27 = .ok (.invokespecial 120, 3) := by decide +kernel
theorem dX11_lives_30 : decode cX11_lives 30 = .ok (.athrow, 1) := by decide +kernel
theorem dX11_lives_31 : decode cX11_lives 31 = .ok (.aload_n 0, 1) := by decide +kernel
theorem dX11_lives_32 : decode cX11_lives 32 = .ok (.iload_n 1, 1) := by decide +kernel
theorem dX11_lives_33 : decode cX11_lives 33 = .ok (.putfield 67, 3) := by decide +kernel
theorem dX11_lives_36 : decode cX11_lives 36 = .ok (.aload_n 0, 1) := by decide +kernel
theorem dX11_lives_37 : decode cX11_lives 37 = .ok (.iload_n 2, 1) := by decide +kernel
theorem dX11_lives_38 : decode cX11_lives 38 = .ok (.putfield 71, 3) := by decide +kernel
theorem dX11_lives_41 : decode cX11_lives 41 = .ok (.aload_n 0, 1) := by decide +kernel
theorem dX11_lives_42 : decode cX11_lives 42 = .ok (.iload_n 3, 1) := by decide +kernel
theorem dX11_lives_43 : decode cX11_lives 43 = .ok (.putfield 74, 3) := by decide +kernel
theorem dX11_lives_46 : decode cX11_lives 46 = .ok (.return_, 1) := by decide +kernel
theorem dX11_dice_0 : decode cX11_dice 0 = .ok (.aload_n 0, 1) := by decide +kernel
theorem dX11_dice_1 : decode cX11_dice 1 = .ok (.getfield 31, 3) := by decide +kernel
theorem dX11_dice_4 : decode cX11_dice 4 = .ok (.iload_n 1, 1) := by decide +kernel
theorem dX11_dice_5 : decode cX11_dice 5 = .ok (.iload_n 2, 1) := by decide +kernel
theorem dX11_dice_6 : decode cX11_dice 6 = .ok (.iload_n 3, 1) := by decide +kernel
theorem dX11_dice_7 : decode cX11_dice 7 = .ok (.iload 4, 2) := by decide +kernel
theorem dX11_dice_9 : decode cX11_dice 9 = .ok (.invokevirtual 177, 3) := by decide +kernel
theorem dX11_dice_12 : decode cX11_dice 12 = .ok (.ifCond .eq 13, 3) := by decide +kernel
theorem dX11_dice_15 : decode cX11_dice 15 = .ok (.aload_n 0, 1) := by decide +kernel
theorem dX11_dice_16 : decode cX11_dice 16 = .ok (.getfield 31, 3) := by decide +kernel
theorem dX11_dice_19 : decode cX11_dice 19 = .ok (.invokevirtual 181, 3) := by decide +kernel
theorem dX11_dice_22 : decode cX11_dice 22 = .ok (.goto 4, 3) := by decide +kernel
theorem dX11_dice_25 : decode cX11_dice 25 = .ok (.iconst (-1), 1) := by decide +kernel
theorem dX11_dice_26 : decode cX11_dice 26 = .ok (.ireturn, 1) := by decide +kernel
theorem dX11_tick_0 : decode cX11_tick 0 = .ok (.iload_n 1, 1) := by decide +kernel
theorem dX11_tick_1 : decode cX11_tick 1 = .ok (.ifCond .lt 9, 3) := by decide +kernel
theorem dX11_tick_4 : decode cX11_tick 4 = .ok (.iload_n 1, 1) := by decide +kernel
theorem dX11_tick_5 : decode cX11_tick 5 = .ok (.ldc 184, 2) := by decide +kernel
theorem dX11_tick_7 : decode cX11_tick 7 = .ok (.if_icmp .le 13, 3) := by decide +kernel
theorem dX11_tick_10 : decode cX11_tick 10 = .ok (.new 116, 3) := by decide +kernel
theorem dX11_tick_13 : decode cX11_tick 13 = .ok (.dup, 1) := by decide +kernel
theorem dX11_tick_14 : decode cX11_tick 14 = .ok (.ldc 185, 2) := by decide +kernel
theorem dX11_tick_16 : decode cX11_tick 16 = .ok (.invokespecial 120, 3) := by decide +kernel
theorem dX11_tick_19 : decode cX11_tick 19 = .ok (.athrow, 1) := by decide +kernel
theorem dX11_tick_20 : decode cX11_tick 20 = .ok (.aload_n 0, 1) := by decide +kernel
theorem dX11_tick_21 : decode cX11_tick 21 = .ok (.dup, 1) := by decide +kernel
theorem dX11_tick_22 : decode cX11_tick 22 = .ok (.getfield 77, 3) := by decide +kernel
theorem dX11_tick_25 : decode cX11_tick 25 = .ok (.iload_n 1, 1) := by decide +kernel
theorem dX11_tick_26 : decode cX11_tick 26 = .ok (.iadd, 1) := by decide +kernel
theorem dX11_tick_27 : decode cX11_tick 27 = .ok (.putfield 77, 3) := by decide +kernel
theorem dX11_tick_30 : decode cX11_tick 30 = .ok (.aload_n 0, 1) := by decide +kernel
theorem dX11_tick_31 : decode cX11_tick 31 = .ok (.getfield 77, 3) := by decide +kernel
theorem dX11_tick_34 : decode cX11_tick 34 = .ok (.ireturn, 1) := by decide +kernel
theorem dX11_authorize_0 : decode cX11_authorize 0 = .ok (.aload_n 0, 1) := by decide +kernel
theorem dX11_authorize_1 : decode cX11_authorize 1 = .ok (.invokevirtual 187, 3) := by decide +kernel
theorem dX11_authorize_4 : decode cX11_authorize 4 = .ok (.ifCond .ne 9, 3) := by decide +kernel
theorem dX11_authorize_7 : decode cX11_authorize 7 = .ok (.aload_n 0, 1) := by decide +kernel
theorem dX11_authorize_8 : decode cX11_authorize 8 = .ok (.iconst 1, 1) := by decide +kernel
theorem dX11_authorize_9 : decode cX11_authorize 9 = .ok (.invokevirtual 191, 3) := by decide +kernel
theorem dX11_authorize_12 : decode cX11_authorize 12 = .ok (.ireturn, 1) := by decide +kernel
theorem dX11_authorize_13 : decode cX11_authorize 13 = .ok (.aload_n 0, 1) := by decide +kernel
theorem dX11_authorize_14 : decode cX11_authorize 14 = .ok (.aload_n 0, 1) := by decide +kernel
theorem dX11_authorize_15 : decode cX11_authorize 15 = .ok (.getfield 24, 3) := by decide +kernel
theorem dX11_authorize_18 : decode cX11_authorize 18 = .ok (.getfield 195, 3) := by decide +kernel
theorem dX11_authorize_21 : decode cX11_authorize 21 = .ok (.getfield 199, 3) := by decide +kernel
theorem dX11_authorize_24 : decode cX11_authorize 24 = .ok (.invokevirtual 145, 3) := by decide +kernel
theorem dX11_authorize_27 : decode cX11_authorize 27 = .ok (.astore_n 1, 1) := by decide +kernel
theorem dX11_authorize_28 : decode cX11_authorize 28 = .ok (.aload_n 1, 1) := by decide +kernel
theorem dX11_authorize_29 : decode cX11_authorize 29 = .ok (.ifnonnull 10, 3) := by decide +kernel
theorem dX11_authorize_32 : decode cX11_authorize 32 = .ok (.aload_n 0, 1) := by decide +kernel
theorem dX11_authorize_33 : decode cX11_authorize 33 = .ok (.bipush 6, 2) := by decide +kernel
theorem dX11_authorize_35 : decode cX11_authorize 35 = .ok (.invokevirtual 191, 3) := by decide +kernel
theorem dX11_authorize_38 : decode cX11_authorize 38 = .ok (.ireturn, 1) := by decide +kernel
theorem dX11_authorize_39 : decode cX11_authorize 39 = .ok (.aload_n 1, 1) := by decide +kernel
theorem dX11_authorize_40 : decode cX11_authorize 40 = .ok (.aload_n 0, 1) := by decide +kernel
theorem dX11_authorize_41 : decode cX11_authorize 41 = .ok (.getfield 24, 3) := by decide +kernel
theorem dX11_authorize_44 : decode cX11_authorize 44 = .ok (.getfield 204, 3) := by decide +kernel
theorem dX11_authorize_47 : decode cX11_authorize 47 = .ok (.getfield 199, 3) := by decide +kernel
theorem dX11_authorize_50 : decode cX11_authorize 50 = .ok (.invokevirtual 207, 3) := by decide +kernel
theorem dX11_authorize_53 : decode cX11_authorize 53 = .ok (.astore_n 2, 1) := by decide +kernel
theorem dX11_authorize_54 : decode cX11_authorize 54 = .ok (.aload_n 2, 1) := by decide +kernel
theorem dX11_authorize_55 : decode cX11_authorize 55 = .ok (.ifnonnull 9, 3) := by decide +kernel
theorem dX11_authorize_58 : decode cX11_authorize 58 = .ok (.aload_n 0, 1) := by decide +kernel
theorem dX11_authorize_59 : decode cX11_authorize 59 = .ok (.iconst 1, 1) := by decide +kernel
theorem dX11_authorize_60 : decode cX11_authorize 60 = .ok (.invokevirtual 191, 3) := by decide +kernel
theorem dX11_authorize_63 : decode cX11_authorize 63 = .ok (.ireturn, 1) := by decide +kernel
theorem dX11_authorize_64 : decode cX11_authorize 64 = .ok (.aload_n 0, 1) := by decide +kernel
theorem dX11_authorize_65 : decode cX11_authorize 65 = .ok (.aload_n 1, 1) := by decide +kernel
theorem dX11_authorize_66 : decode cX11_authorize 66 = .ok (.getfield 211, 3) := by decide +kernel
theorem dX11_authorize_69 : decode cX11_authorize 69 = .ok (.invokevirtual 214, 3) := by decide +kernel
theorem dX11_authorize_72 : decode cX11_authorize 72 = .ok (.istore_n 3, 1) := by decide +kernel
theorem dX11_authorize_73 : decode cX11_authorize 73 = .ok (.aload_n 0, 1) := by decide +kernel
theorem dX11_authorize_74 : decode cX11_authorize 74 = .ok (.aload_n 1, 1) := by decide +kernel
theorem dX11_authorize_75 : decode cX11_authorize 75 = .ok (.iload_n 3, 1) := by decide +kernel
theorem dX11_authorize_76 : decode cX11_authorize 76 = .ok (.invokevirtual 217, 3) := by decide +kernel
theorem dX11_authorize_79 : decode cX11_authorize 79 = .ok (.istore 4, 2) := by decide +kernel
theorem dX11_authorize_81 : decode cX11_authorize 81 = .ok (.iload 4, 2) := by decide +kernel
theorem dX11_authorize_83 : decode cX11_authorize 83 = .ok (.ifCond .eq 21, 3) := by decide +kernel
theorem dX11_authorize_86 : decode cX11_authorize 86 = .ok (.aload_n 0, 1) := by decide +kernel
theorem dX11_authorize_87 : decode cX11_authorize 87 = .ok (.iload 4, 2) := by decide +kernel
theorem dX11_authorize_89 : decode cX11_authorize 89 = .ok (.aload_n 2, 1) := by decide +kernel
theorem dX11_authorize_90 : decode cX11_authorize 90 = .ok (.aload_n 0, 1) := by decide +kernel
theorem dX11_authorize_91 : decode cX11_authorize 91 = .ok (.getfield 24, 3) := by decide +kernel
theorem dX11_authorize_94 : decode cX11_authorize 94 = .ok (.getfield 221, 3) := by decide +kernel
theorem dX11_authorize_97 : decode cX11_authorize 97 = .ok (.getfield 199, 3) := by decide +kernel
theorem dX11_authorize_100 : decode cX11_authorize 100 = .ok (.invokevirtual 224, 3) := by decide +kernel
theorem dX11_authorize_103 : decode cX11_authorize 103 = .ok (.ireturn, 1) := by decide +kernel
theorem dX11_authorize_104 : decode cX11_authorize 104 = .ok (.aload_n 0, 1) := by decide +kernel
theorem dX11_authorize_105 : decode cX11_authorize 105 = .ok (.getfield 52, 3) := by decide +kernel
theorem dX11_authorize_108 : decode cX11_authorize 108 = .ok (.new 228, 3) := by decide +kernel
theorem dX11_authorize_111 : decode cX11_authorize 111 = .ok (.dup, 1) := by decide +kernel
theorem dX11_authorize_112 : decode cX11_authorize 112 = .ok (.aload_n 1, 1) := by decide +kernel
theorem dX11_authorize_113 : decode cX11_authorize 113 = .ok (.aload_n 2, 1) := by decide +kernel
theorem dX11_authorize_114 : decode cX11_authorize 114 = .ok (.iload_n 3, 1) := by decide +kernel
theorem dX11_authorize_115 : decode cX11_authorize 115 = .ok (.aload_n 0, 1) := by decide +kernel
theorem dX11_authorize_116 : decode cX11_authorize 116 = .ok (.getfield 24, 3) := by decide +kernel
theorem dX11_authorize_119 : decode cX11_authorize 119 = .ok (.getfield 230, 3) := by decide +kernel
theorem dX11_authorize_122 : decode cX11_authorize 122 = .ok (.invokevirtual 233, 3) := by decide +kernel
theorem dX11_authorize_125 : decode cX11_authorize 125 = .ok (.aload_n 0, 1) := by decide +kernel
theorem dX11_authorize_126 : decode cX11_authorize 126 = .ok (.getfield 24, 3) := by decide +kernel
theorem dX11_authorize_129 : decode cX11_authorize 129 = .ok (.getfield 221, 3) := by decide +kernel
theorem dX11_authorize_132 : decode cX11_authorize 132 = .ok (.invokevirtual 233, 3) := by decide +kernel
theorem dX11_authorize_135 : decode cX11_authorize 135 = .ok (.invokespecial 237, 3) := by decide +kernel
theorem dX11_authorize_138 : decode cX11_authorize 138 = .ok (.invokevirtual 129, 3) := by decide +kernel
theorem dX11_authorize_141 : decode cX11_authorize 141 = .ok (.pop, 1) := by decide +kernel
theorem dX11_authorize_142 : decode cX11_authorize 142 = .ok (.aload_n 0, 1) := by decide +kernel
theorem dX11_authorize_143 : decode cX11_authorize 143 = .ok (.sipush 200, 3) := by decide +kernel
theorem dX11_authorize_146 : decode cX11_authorize 146 = .ok (.iconst 0, 1) := by decide +kernel
theorem dX11_authorize_147 : decode cX11_authorize 147 = .ok (.invokevirtual 240, 3) := by decide +kernel
theorem dX11_authorize_150 : decode cX11_authorize 150 = .ok (.pop, 1) := by decide +kernel
theorem dX11_authorize_151 : decode cX11_authorize 151 = .ok (.aload_n 0, 1) := by decide +kernel
theorem dX11_authorize_152 : decode cX11_authorize 152 = .ok (.getfield 52, 3) := by decide +kernel
theorem dX11_authorize_155 : decode cX11_authorize 155 = .ok (.invokevirtual 123, 3) := by decide +kernel
theorem dX11_authorize_158 : decode cX11_authorize 158 = .ok (.iconst 1, 1) := by decide +kernel
theorem dX11_authorize_159 : decode cX11_authorize 159 = .ok (.isub, 1) := by decide +kernel
theorem dX11_authorize_160 : decode cX11_authorize 160 = .ok (.ireturn, 1) := by decide +kernel
theorem dX11_consent_0 : decode cX11_consent 0 = .ok (.iload_n 1, 1) := by decide +kernel
theorem dX11_consent_1 : decode cX11_consent 1 = .ok (.ifCond .lt 31, 3) := by decide +kernel
theorem dX11_consent_4 : decode cX11_consent 4 = .ok (.iload_n 1, 1) := by decide +kernel
theorem dX11_consent_5 : decode cX11_consent 5 = .ok (.aload_n 0, 1) := by decide +kernel
theorem dX11_consent_6 : decode cX11_consent 6 = .ok (.getfield 52, 3) := by decide +kernel
theorem dX11_consent_9 : decode cX11_consent 9 = .ok (.invokevirtual 123, 3) := by decide +kernel
theorem dX11_consent_12 : decode cX11_consent 12 = .ok (.if_icmp .ge 20, 3) := by decide +kernel
theorem dX11_consent_15 : decode cX11_consent 15 = .ok (.aload_n 0, 1) := by decide +kernel
theorem dX11_consent_16 : decode cX11_consent 16 = .ok (.getfield 52, 3) := by decide +kernel
theorem dX11_consent_19 : decode cX11_consent 19 = .ok (.iload_n 1, 1) := by decide +kernel
theorem dX11_consent_20 : decode cX11_consent 20 = .ok (.invokevirtual 163, 3) := by decide +kernel
theorem dX11_consent_23 : decode cX11_consent 23 = .ok (.checkcast 228, 3) := by decide +kernel
theorem dX11_consent_26 : decode cX11_consent 26 = .ok (.getfield 244, 3) := by decide +kernel
theorem dX11_consent_29 : decode cX11_consent 29 = .ok (.ifCond .ne 13, 3) := by decide +kernel
theorem dX11_consent_32 : decode cX11_consent 32 = .ok (.new 248, 3) := by decide +kernel
theorem dX11_consent_35 : decode cX11_consent 35 = .ok (.dup, 1) := by decide +kernel
theorem dX11_consent_36 : decode cX11_consent 36 = .ok (.ldc 250, 2) := by decide +kernel
theorem dX11_consent_38 : decode cX11_consent 38 = .ok (.invokespecial 252, 3) := by decide +kernel
theorem dX11_consent_41 : decode cX11_consent 41 = .ok (.athrow, 1) := by decide +kernel
theorem dX11_consent_42 : decode cX11_consent 42 = .ok (.aload_n 0, 1) := by decide +kernel
theorem dX11_consent_43 : decode cX11_consent 43 = .ok (.getfield 52, 3) := by decide +kernel
theorem dX11_consent_46 : decode cX11_consent 46 = .ok (.iload_n 1, 1) := by decide +kernel
theorem dX11_consent_47 : decode cX11_consent 47 = .ok (.invokevirtual 163, 3) := by decide +kernel
theorem dX11_consent_50 : decode cX11_consent 50 = .ok (.checkcast 228, 3) := by decide +kernel
theorem dX11_consent_53 : decode cX11_consent 53 = .ok (.astore 5, 2) := by decide +kernel
theorem dX11_consent_55 : decode cX11_consent 55 = .ok (.iload 4, 2) := by decide +kernel
theorem dX11_consent_57 : decode cX11_consent 57 = .ok (.ifCond .eq 30, 3) := by decide +kernel
theorem dX11_consent_60 : decode cX11_consent 60 = .ok (.iload_n 3, 1) := by decide +kernel
theorem dX11_consent_61 : decode cX11_consent 61 = .ok (.ifCond .eq 15, 3) := by decide +kernel
theorem dX11_consent_64 : decode cX11_consent 64 = .ok (.iload_n 3, 1) := by decide +kernel
theorem dX11_consent_65 : decode cX11_consent 65 = .ok (.aload 5, 2) := by decide +kernel
theorem dX11_consent_67 : decode cX11_consent 67 = .ok (.getfield 253, 3) := by decide +kernel
theorem dX11_consent_70 : decode cX11_consent 70 = .ok (.invokestatic 254, 3) := by decide +kernel
theorem dX11_consent_73 : decode cX11_consent 73 = .ok (.ifCond .ne 14, 3) := by decide +kernel
theorem dX11_consent_76 : decode cX11_consent 76 = .ok (.new 116, 3) := by decide +kernel
theorem dX11_consent_79 : decode cX11_consent 79 = .ok (.dup, 1) := by decide +kernel
theorem dX11_consent_80 : decode cX11_consent 80 = .ok (.ldc_w 258, 3) := by decide +kernel
theorem dX11_consent_83 : decode cX11_consent 83 = .ok (.invokespecial 120, 3) := by decide +kernel
theorem dX11_consent_86 : decode cX11_consent 86 = .ok (.athrow, 1) := by decide +kernel
theorem dX11_consent_87 : decode cX11_consent 87 = .ok (.iload 4, 2) := by decide +kernel
theorem dX11_consent_89 : decode cX11_consent 89 = .ok (.ifCond .eq 38, 3) := by decide +kernel
theorem dX11_consent_92 : decode cX11_consent 92 = .ok (.aload_n 0, 1) := by decide +kernel
theorem dX11_consent_93 : decode cX11_consent 93 = .ok (.getfield 55, 3) := by decide +kernel
theorem dX11_consent_96 : decode cX11_consent 96 = .ok (.invokevirtual 123, 3) := by decide +kernel
theorem dX11_consent_99 : decode cX11_consent 99 = .ok (.sipush 200, 3) := by decide +kernel
theorem dX11_consent_102 : decode cX11_consent 102 = .ok (.if_icmp .ge 14, 3) := by decide +kernel
theorem dX11_consent_105 : decode cX11_consent 105 = .ok (.aload_n 0, 1) := by decide +kernel
theorem dX11_consent_106 : decode cX11_consent 106 = .ok (.getfield 31, 3) := by decide +kernel
theorem dX11_consent_109 : decode cX11_consent 109 = .ok (.iconst 1, 1) := by decide +kernel
theorem dX11_consent_110 : decode cX11_consent 110 = .ok (.invokevirtual 260, 3) := by decide +kernel
theorem dX11_consent_113 : decode cX11_consent 113 = .ok (.ifCond .ne 14, 3) := by decide +kernel
theorem dX11_consent_116 : decode cX11_consent 116 = .ok (.new 263, 3) := by decide +kernel
theorem dX11_consent_119 : decode cX11_consent 119 = .ok (.dup, 1) := by decide +kernel
theorem dX11_consent_120 : decode cX11_consent 120 = .ok (.ldc_w 265, 3) := by decide +kernel
theorem dX11_consent_123 : decode cX11_consent 123 = .ok (.invokespecial 267, 3) := by decide +kernel
theorem dX11_consent_126 : decode cX11_consent 126 = .ok (.athrow, 1) := by decide +kernel
theorem dX11_consent_127 : decode cX11_consent 127 = .ok (.aload 5, 2) := by decide +kernel
theorem dX11_consent_129 : decode cX11_consent 129 = .ok (.iconst 0, 1) := by decide +kernel
theorem dX11_consent_130 : decode cX11_consent 130 = .ok (.putfield 244, 3) := by decide +kernel
theorem dX11_consent_133 : decode cX11_consent 133 = .ok (.iload 4, 2) := by decide +kernel
theorem dX11_consent_135 : decode cX11_consent 135 = .ok (.ifCond .ne 19, 3) := by decide +kernel
theorem dX11_consent_138 : decode cX11_consent 138 = .ok (.aload_n 0, 1) := by decide +kernel
theorem dX11_consent_139 : decode cX11_consent 139 = .ok (.iconst 3, 1) := by decide +kernel
theorem dX11_consent_140 : decode cX11_consent 140 = .ok (.aload 5, 2) := by decide +kernel
theorem dX11_consent_142 : decode cX11_consent 142 = .ok (.getfield 268, 3) := by decide +kernel
theorem dX11_consent_145 : decode cX11_consent 145 = .ok (.aload 5, 2) := by decide +kernel
theorem dX11_consent_147 : decode cX11_consent 147 = .ok (.getfield 271, 3) := by decide +kernel
theorem dX11_consent_150 : decode cX11_consent 150 = .ok (.invokevirtual 224, 3) := by decide +kernel
theorem dX11_consent_153 : decode cX11_consent 153 = .ok (.ireturn, 1) := by decide +kernel
theorem dX11_consent_154 : decode cX11_consent 154 = .ok (.aload_n 0, 1) := by decide +kernel
theorem dX11_consent_155 : decode cX11_consent 155 = .ok (.new 273, 3) := by decide +kernel
theorem dX11_consent_158 : decode cX11_consent 158 = .ok (.dup, 1) := by decide +kernel
theorem dX11_consent_159 : decode cX11_consent 159 = .ok (.aload 5, 2) := by decide +kernel
theorem dX11_consent_161 : decode cX11_consent 161 = .ok (.iload_n 2, 1) := by decide +kernel
theorem dX11_consent_162 : decode cX11_consent 162 = .ok (.iload_n 3, 1) := by decide +kernel
theorem dX11_consent_163 : decode cX11_consent 163 = .ok (.aload_n 0, 1) := by decide +kernel
theorem dX11_consent_164 : decode cX11_consent 164 = .ok (.getfield 77, 3) := by decide +kernel
theorem dX11_consent_167 : decode cX11_consent 167 = .ok (.aload_n 0, 1) := by decide +kernel
theorem dX11_consent_168 : decode cX11_consent 168 = .ok (.getfield 67, 3) := by decide +kernel
theorem dX11_consent_171 : decode cX11_consent 171 = .ok (.iadd, 1) := by decide +kernel
theorem dX11_consent_172 : decode cX11_consent 172 = .ok (.invokespecial 275, 3) := by decide +kernel
theorem dX11_consent_175 : decode cX11_consent 175 = .ok (.invokevirtual 278, 3) := by decide +kernel
theorem dX11_consent_178 : decode cX11_consent 178 = .ok (.ireturn, 1) := by decide +kernel
theorem dX11_token_0 : decode cX11_token 0 = .ok (.aload_n 0, 1) := by decide +kernel
theorem dX11_token_1 : decode cX11_token 1 = .ok (.invokevirtual 187, 3) := by decide +kernel
theorem dX11_token_4 : decode cX11_token 4 = .ok (.ifCond .eq 16, 3) := by decide +kernel
theorem dX11_token_7 : decode cX11_token 7 = .ok (.aload_n 0, 1) := by decide +kernel
theorem dX11_token_8 : decode cX11_token 8 = .ok (.getfield 24, 3) := by decide +kernel
theorem dX11_token_11 : decode cX11_token 11 = .ok (.getfield 282, 3) := by decide +kernel
theorem dX11_token_14 : decode cX11_token 14 = .ok (.invokevirtual 285, 3) := by decide +kernel
theorem dX11_token_17 : decode cX11_token 17 = .ok (.ifCond .ne 12, 3) := by decide +kernel
theorem dX11_token_20 : decode cX11_token 20 = .ok (.aload_n 0, 1) := by decide +kernel
theorem dX11_token_21 : decode cX11_token 21 = .ok (.sipush 400, 3) := by decide +kernel
theorem dX11_token_24 : decode cX11_token 24 = .ok (.iconst 1, 1) := by decide +kernel
theorem dX11_token_25 : decode cX11_token 25 = .ok (.invokevirtual 288, 3) := by decide +kernel
theorem dX11_token_28 : decode cX11_token 28 = .ok (.ireturn, 1) := by decide +kernel
theorem dX11_token_29 : decode cX11_token 29 = .ok (.aload_n 0, 1) := by decide +kernel
theorem dX11_token_30 : decode cX11_token 30 = .ok (.invokevirtual 291, 3) := by decide +kernel
theorem dX11_token_33 : decode cX11_token 33 = .ok (.astore_n 1, 1) := by decide +kernel
theorem dX11_token_34 : decode cX11_token 34 = .ok (.aload_n 1, 1) := by decide +kernel
theorem dX11_token_35 : decode cX11_token 35 = .ok (.ifnonnull 13, 3) := by decide +kernel
theorem dX11_token_38 : decode cX11_token 38 = .ok (.aload_n 0, 1) := by decide +kernel
theorem dX11_token_39 : decode cX11_token 39 = .ok (.sipush 401, 3) := by decide +kernel
theorem dX11_token_42 : decode cX11_token 42 = .ok (.bipush 6, 2) := by decide +kernel
theorem dX11_token_44 : decode cX11_token 44 = .ok (.invokevirtual 288, 3) := by decide +kernel
theorem dX11_token_47 : decode cX11_token 47 = .ok (.ireturn, 1) := by decide +kernel
theorem dX11_token_48 : decode cX11_token 48 = .ok (.aload_n 0, 1) := by decide +kernel
theorem dX11_token_49 : decode cX11_token 49 = .ok (.getfield 24, 3) := by decide +kernel
theorem dX11_token_52 : decode cX11_token 52 = .ok (.getfield 282, 3) := by decide +kernel
theorem dX11_token_55 : decode cX11_token 55 = .ok (.getfield 199, 3) := by decide +kernel
theorem dX11_token_58 : decode cX11_token 58 = .ok (.ldc_w 295, 3) := by decide +kernel
theorem dX11_token_61 : decode cX11_token 61 = .ok (.invokevirtual 297, 3) := by decide +kernel
theorem dX11_token_64 : decode cX11_token 64 = .ok (.ifCond .eq 9, 3) := by decide +kernel
theorem dX11_token_67 : decode cX11_token 67 = .ok (.aload_n 0, 1) := by decide +kernel
theorem dX11_token_68 : decode cX11_token 68 = .ok (.aload_n 1, 1) := by decide +kernel
theorem dX11_token_69 : decode cX11_token 69 = .ok (.invokevirtual 301, 3) := by decide +kernel
theorem dX11_token_72 : decode cX11_token 72 = .ok (.ireturn, 1) := by decide +kernel
theorem dX11_token_73 : decode cX11_token 73 = .ok (.aload_n 0, 1) := by decide +kernel
theorem dX11_token_74 : decode cX11_token 74 = .ok (.getfield 24, 3) := by decide +kernel
theorem dX11_token_77 : decode cX11_token 77 = .ok (.getfield 282, 3) := by decide +kernel
theorem dX11_token_80 : decode cX11_token 80 = .ok (.getfield 199, 3) := by decide +kernel
theorem dX11_token_83 : decode cX11_token 83 = .ok (.ldc_w 305, 3) := by decide +kernel
theorem dX11_token_86 : decode cX11_token 86 = .ok (.invokevirtual 297, 3) := by decide +kernel
theorem dX11_token_89 : decode cX11_token 89 = .ok (.ifCond .eq 9, 3) := by decide +kernel
theorem dX11_token_92 : decode cX11_token 92 = .ok (.aload_n 0, 1) := by decide +kernel
theorem dX11_token_93 : decode cX11_token 93 = .ok (.aload_n 1, 1) := by decide +kernel
theorem dX11_token_94 : decode cX11_token 94 = .ok (.invokevirtual 307, 3) := by decide +kernel
theorem dX11_token_97 : decode cX11_token 97 = .ok (.ireturn, 1) := by decide +kernel
theorem dX11_token_98 : decode cX11_token 98 = .ok (.aload_n 0, 1) := by decide +kernel
theorem dX11_token_99 : decode cX11_token 99 = .ok (.sipush 400, 3) := by decide +kernel
theorem dX11_token_102 : decode cX11_token 102 = .ok (.bipush 8, 2) := by decide +kernel
theorem dX11_token_104 : decode cX11_token 104 = .ok (.invokevirtual 288, 3) := by decide +kernel
theorem dX11_token_107 : decode cX11_token 107 = .ok (.ireturn, 1) := by decide +kernel
theorem dX11_revoke_0 : decode cX11_revoke 0 = .ok (.aload_n 0, 1) := by decide +kernel
theorem dX11_revoke_1 : decode cX11_revoke 1 = .ok (.invokevirtual 187, 3) := by decide +kernel
theorem dX11_revoke_4 : decode cX11_revoke 4 = .ok (.ifCond .ne 12, 3) := by decide +kernel
theorem dX11_revoke_7 : decode cX11_revoke 7 = .ok (.aload_n 0, 1) := by decide +kernel
theorem dX11_revoke_8 : decode cX11_revoke 8 = .ok (.sipush 400, 3) := by decide +kernel
theorem dX11_revoke_11 : decode cX11_revoke 11 = .ok (.iconst 1, 1) := by decide +kernel
theorem dX11_revoke_12 : decode cX11_revoke 12 = .ok (.invokevirtual 288, 3) := by decide +kernel
theorem dX11_revoke_15 : decode cX11_revoke 15 = .ok (.ireturn, 1) := by decide +kernel
theorem dX11_revoke_16 : decode cX11_revoke 16 = .ok (.aload_n 0, 1) := by decide +kernel
theorem dX11_revoke_17 : decode cX11_revoke 17 = .ok (.invokevirtual 291, 3) := by decide +kernel
theorem dX11_revoke_20 : decode cX11_revoke 20 = .ok (.astore_n 1, 1) := by decide +kernel
theorem dX11_revoke_21 : decode cX11_revoke 21 = .ok (.aload_n 1, 1) := by decide +kernel
theorem dX11_revoke_22 : decode cX11_revoke 22 = .ok (.ifnonnull 13, 3) := by decide +kernel
theorem dX11_revoke_25 : decode cX11_revoke 25 = .ok (.aload_n 0, 1) := by decide +kernel
theorem dX11_revoke_26 : decode cX11_revoke 26 = .ok (.sipush 401, 3) := by decide +kernel
theorem dX11_revoke_29 : decode cX11_revoke 29 = .ok (.bipush 6, 2) := by decide +kernel
theorem dX11_revoke_31 : decode cX11_revoke 31 = .ok (.invokevirtual 288, 3) := by decide +kernel
theorem dX11_revoke_34 : decode cX11_revoke 34 = .ok (.ireturn, 1) := by decide +kernel
theorem dX11_revoke_35 : decode cX11_revoke 35 = .ok (.aload_n 0, 1) := by decide +kernel
theorem dX11_revoke_36 : decode cX11_revoke 36 = .ok (.getfield 24, 3) := by decide +kernel
theorem dX11_revoke_39 : decode cX11_revoke 39 = .ok (.getfield 310, 3) := by decide +kernel
theorem dX11_revoke_42 : decode cX11_revoke 42 = .ok (.invokevirtual 285, 3) := by decide +kernel
theorem dX11_revoke_45 : decode cX11_revoke 45 = .ok (.ifCond .ne 12, 3) := by decide +kernel
theorem dX11_revoke_48 : decode cX11_revoke 48 = .ok (.aload_n 0, 1) := by decide +kernel
theorem dX11_revoke_49 : decode cX11_revoke 49 = .ok (.sipush 400, 3) := by decide +kernel
theorem dX11_revoke_52 : decode cX11_revoke 52 = .ok (.iconst 1, 1) := by decide +kernel
theorem dX11_revoke_53 : decode cX11_revoke 53 = .ok (.invokevirtual 288, 3) := by decide +kernel
theorem dX11_revoke_56 : decode cX11_revoke 56 = .ok (.ireturn, 1) := by decide +kernel
theorem dX11_revoke_57 : decode cX11_revoke 57 = .ok (.aload_n 0, 1) := by decide +kernel
theorem dX11_revoke_58 : decode cX11_revoke 58 = .ok (.aload_n 0, 1) := by decide +kernel
theorem dX11_revoke_59 : decode cX11_revoke 59 = .ok (.getfield 24, 3) := by decide +kernel
theorem dX11_revoke_62 : decode cX11_revoke 62 = .ok (.getfield 310, 3) := by decide +kernel
theorem dX11_revoke_65 : decode cX11_revoke 65 = .ok (.getfield 199, 3) := by decide +kernel
theorem dX11_revoke_68 : decode cX11_revoke 68 = .ok (.invokevirtual 313, 3) := by decide +kernel
theorem dX11_revoke_71 : decode cX11_revoke 71 = .ok (.astore_n 2, 1) := by decide +kernel
theorem dX11_revoke_72 : decode cX11_revoke 72 = .ok (.aload_n 2, 1) := by decide +kernel
theorem dX11_revoke_73 : decode cX11_revoke 73 = .ok (.ifnull 25, 3) := by decide +kernel
theorem dX11_revoke_76 : decode cX11_revoke 76 = .ok (.aload_n 2, 1) := by decide +kernel
theorem dX11_revoke_77 : decode cX11_revoke 77 = .ok (.getfield 317, 3) := by decide +kernel
theorem dX11_revoke_80 : decode cX11_revoke 80 = .ok (.getfield 323, 3) := by decide +kernel
theorem dX11_revoke_83 : decode cX11_revoke 83 = .ok (.aload_n 1, 1) := by decide +kernel
theorem dX11_revoke_84 : decode cX11_revoke 84 = .ok (.getfield 328, 3) := by decide +kernel
theorem dX11_revoke_87 : decode cX11_revoke 87 = .ok (.if_icmp .ne 11, 3) := by decide +kernel
theorem dX11_revoke_90 : decode cX11_revoke 90 = .ok (.aload_n 2, 1) := by decide +kernel
theorem dX11_revoke_91 : decode cX11_revoke 91 = .ok (.getfield 317, 3) := by decide +kernel
theorem dX11_revoke_94 : decode cX11_revoke 94 = .ok (.iconst 1, 1) := by decide +kernel
theorem dX11_revoke_95 : decode cX11_revoke 95 = .ok (.putfield 331, 3) := by decide +kernel
theorem dX11_revoke_98 : decode cX11_revoke 98 = .ok (.aload_n 0, 1) := by decide +kernel
theorem dX11_revoke_99 : decode cX11_revoke 99 = .ok (.aload_n 0, 1) := by decide +kernel
theorem dX11_revoke_100 : decode cX11_revoke 100 = .ok (.getfield 24, 3) := by decide +kernel
theorem dX11_revoke_103 : decode cX11_revoke 103 = .ok (.getfield 310, 3) := by decide +kernel
theorem dX11_revoke_106 : decode cX11_revoke 106 = .ok (.getfield 199, 3) := by decide +kernel
theorem dX11_revoke_109 : decode cX11_revoke 109 = .ok (.invokevirtual 334, 3) := by decide +kernel
theorem dX11_revoke_112 : decode cX11_revoke 112 = .ok (.astore_n 3, 1) := by decide +kernel
theorem dX11_revoke_113 : decode cX11_revoke 113 = .ok (.aload_n 3, 1) := by decide +kernel
theorem dX11_revoke_114 : decode cX11_revoke 114 = .ok (.ifnull 22, 3) := by decide +kernel
theorem dX11_revoke_117 : decode cX11_revoke 117 = .ok (.aload_n 3, 1) := by decide +kernel
theorem dX11_revoke_118 : decode cX11_revoke 118 = .ok (.getfield 317, 3) := by decide +kernel
theorem dX11_revoke_121 : decode cX11_revoke 121 = .ok (.getfield 323, 3) := by decide +kernel
theorem dX11_revoke_124 : decode cX11_revoke 124 = .ok (.aload_n 1, 1) := by decide +kernel
theorem dX11_revoke_125 : decode cX11_revoke 125 = .ok (.getfield 328, 3) := by decide +kernel
theorem dX11_revoke_128 : decode cX11_revoke 128 = .ok (.if_icmp .ne 8, 3) := by decide +kernel
theorem dX11_revoke_131 : decode cX11_revoke 131 = .ok (.aload_n 3, 1) := by decide +kernel
theorem dX11_revoke_132 : decode cX11_revoke 132 = .ok (.iconst 1, 1) := by decide +kernel
theorem dX11_revoke_133 : decode cX11_revoke 133 = .ok (.putfield 337, 3) := by decide +kernel
theorem dX11_revoke_136 : decode cX11_revoke 136 = .ok (.aload_n 0, 1) := by decide +kernel
theorem dX11_revoke_137 : decode cX11_revoke 137 = .ok (.sipush 200, 3) := by decide +kernel
theorem dX11_revoke_140 : decode cX11_revoke 140 = .ok (.iconst 0, 1) := by decide +kernel
theorem dX11_revoke_141 : decode cX11_revoke 141 = .ok (.invokevirtual 240, 3) := by decide +kernel
theorem dX11_revoke_144 : decode cX11_revoke 144 = .ok (.ireturn, 1) := by decide +kernel
theorem dX11_check_0 : decode cX11_check 0 = .ok (.aload_n 0, 1) := by decide +kernel
theorem dX11_check_1 : decode cX11_check 1 = .ok (.aload_n 0, 1) := by decide +kernel
theorem dX11_check_2 : decode cX11_check 2 = .ok (.getfield 14, 3) := by decide +kernel
theorem dX11_check_5 : decode cX11_check 5 = .ok (.invokevirtual 334, 3) := by decide +kernel
theorem dX11_check_8 : decode cX11_check 8 = .ok (.astore_n 2, 1) := by decide +kernel
theorem dX11_check_9 : decode cX11_check 9 = .ok (.aload_n 0, 1) := by decide +kernel
theorem dX11_check_10 : decode cX11_check 10 = .ok (.getfield 14, 3) := by decide +kernel
theorem dX11_check_13 : decode cX11_check 13 = .ok (.invokevirtual 109, 3) := by decide +kernel
theorem dX11_check_16 : decode cX11_check 16 = .ok (.iload_n 1, 1) := by decide +kernel
theorem dX11_check_17 : decode cX11_check 17 = .ok (.ifCond .lt 14, 3) := by decide +kernel
theorem dX11_check_20 : decode cX11_check 20 = .ok (.iload_n 1, 1) := by decide +kernel
theorem dX11_check_21 : decode cX11_check 21 = .ok (.aload_n 0, 1) := by decide +kernel
theorem dX11_check_22 : decode cX11_check 22 = .ok (.getfield 45, 3) := by decide +kernel
theorem dX11_check_25 : decode cX11_check 25 = .ok (.invokevirtual 123, 3) := by decide +kernel
theorem dX11_check_28 : decode cX11_check 28 = .ok (.if_icmp .lt 14, 3) := by decide +kernel
theorem dX11_check_31 : decode cX11_check 31 = .ok (.new 156, 3) := by decide +kernel
theorem dX11_check_34 : decode cX11_check 34 = .ok (.dup, 1) := by decide +kernel
theorem dX11_check_35 : decode cX11_check 35 = .ok (.ldc_w 340, 3) := by decide +kernel
theorem dX11_check_38 : decode cX11_check 38 = .ok (.invokespecial 160, 3) := by decide +kernel
theorem dX11_check_41 : decode cX11_check 41 = .ok (.athrow, 1) := by decide +kernel
theorem dX11_check_42 : decode cX11_check 42 = .ok (.aload_n 2, 1) := by decide +kernel
theorem dX11_check_43 : decode cX11_check 43 = .ok (.ifnull 14, 3) := by decide +kernel
theorem dX11_check_46 : decode cX11_check 46 = .ok (.aload_n 2, 1) := by decide +kernel
theorem dX11_check_47 : decode cX11_check 47 = .ok (.aload_n 0, 1) := by decide +kernel
theorem dX11_check_48 : decode cX11_check 48 = .ok (.getfield 77, 3) := by decide +kernel
theorem dX11_check_51 : decode cX11_check 51 = .ok (.invokevirtual 342, 3) := by decide +kernel
theorem dX11_check_54 : decode cX11_check 54 = .ok (.ifCond .ne 15, 3) := by decide +kernel
theorem dX11_check_57 : decode cX11_check 57 = .ok (.aload_n 0, 1) := by decide +kernel
theorem dX11_check_58 : decode cX11_check 58 = .ok (.sipush 401, 3) := by decide +kernel
theorem dX11_check_61 : decode cX11_check 61 = .ok (.bipush 9, 2) := by decide +kernel
theorem dX11_check_63 : decode cX11_check 63 = .ok (.invokevirtual 240, 3) := by decide +kernel
theorem dX11_check_66 : decode cX11_check 66 = .ok (.pop, 1) := by decide +kernel
theorem dX11_check_67 : decode cX11_check 67 = .ok (.iconst 0, 1) := by decide +kernel
theorem dX11_check_68 : decode cX11_check 68 = .ok (.ireturn, 1) := by decide +kernel
theorem dX11_check_69 : decode cX11_check 69 = .ok (.iconst 1, 1) := by decide +kernel
theorem dX11_check_70 : decode cX11_check 70 = .ok (.iload_n 1, 1) := by decide +kernel
theorem dX11_check_71 : decode cX11_check 71 = .ok (.ishl, 1) := by decide +kernel
theorem dX11_check_72 : decode cX11_check 72 = .ok (.aload_n 2, 1) := by decide +kernel
theorem dX11_check_73 : decode cX11_check 73 = .ok (.getfield 345, 3) := by decide +kernel
theorem dX11_check_76 : decode cX11_check 76 = .ok (.invokestatic 254, 3) := by decide +kernel
theorem dX11_check_79 : decode cX11_check 79 = .ok (.ifCond .ne 15, 3) := by decide +kernel
theorem dX11_check_82 : decode cX11_check 82 = .ok (.aload_n 0, 1) := by decide +kernel
theorem dX11_check_83 : decode cX11_check 83 = .ok (.sipush 403, 3) := by decide +kernel
theorem dX11_check_86 : decode cX11_check 86 = .ok (.bipush 10, 2) := by decide +kernel
theorem dX11_check_88 : decode cX11_check 88 = .ok (.invokevirtual 240, 3) := by decide +kernel
theorem dX11_check_91 : decode cX11_check 91 = .ok (.pop, 1) := by decide +kernel
theorem dX11_check_92 : decode cX11_check 92 = .ok (.iconst 0, 1) := by decide +kernel
theorem dX11_check_93 : decode cX11_check 93 = .ok (.ireturn, 1) := by decide +kernel
theorem dX11_check_94 : decode cX11_check 94 = .ok (.aload_n 0, 1) := by decide +kernel
theorem dX11_check_95 : decode cX11_check 95 = .ok (.sipush 200, 3) := by decide +kernel
theorem dX11_check_98 : decode cX11_check 98 = .ok (.iconst 0, 1) := by decide +kernel
theorem dX11_check_99 : decode cX11_check 99 = .ok (.invokevirtual 240, 3) := by decide +kernel
theorem dX11_check_102 : decode cX11_check 102 = .ok (.pop, 1) := by decide +kernel
theorem dX11_check_103 : decode cX11_check 103 = .ok (.aload_n 2, 1) := by decide +kernel
theorem dX11_check_104 : decode cX11_check 104 = .ok (.getfield 317, 3) := by decide +kernel
theorem dX11_check_107 : decode cX11_check 107 = .ok (.getfield 346, 3) := by decide +kernel
theorem dX11_check_110 : decode cX11_check 110 = .ok (.ireturn, 1) := by decide +kernel
theorem dX11_status_0 : decode cX11_status 0 = .ok (.aload_n 0, 1) := by decide +kernel
theorem dX11_status_1 : decode cX11_status 1 = .ok (.getfield 80, 3) := by decide +kernel
theorem dX11_status_4 : decode cX11_status 4 = .ok (.ireturn, 1) := by decide +kernel
theorem dX11_error_0 : decode cX11_error 0 = .ok (.aload_n 0, 1) := by decide +kernel
theorem dX11_error_1 : decode cX11_error 1 = .ok (.getfield 83, 3) := by decide +kernel
theorem dX11_error_4 : decode cX11_error 4 = .ok (.ireturn, 1) := by decide +kernel
theorem dX11_out_0 : decode cX11_out 0 = .ok (.aload_n 0, 1) := by decide +kernel
theorem dX11_out_1 : decode cX11_out 1 = .ok (.getfield 18, 3) := by decide +kernel
theorem dX11_out_4 : decode cX11_out 4 = .ok (.iload_n 1, 1) := by decide +kernel
theorem dX11_out_5 : decode cX11_out 5 = .ok (.invokevirtual 349, 3) := by decide +kernel
theorem dX11_out_8 : decode cX11_out 8 = .ok (.ireturn, 1) := by decide +kernel
theorem dX11_outs_0 : decode cX11_outs 0 = .ok (.aload_n 0, 1) := by decide +kernel
theorem dX11_outs_1 : decode cX11_outs 1 = .ok (.getfield 18, 3) := by decide +kernel
theorem dX11_outs_4 : decode cX11_outs 4 = .ok (.invokevirtual 86, 3) := by decide +kernel
theorem dX11_outs_7 : decode cX11_outs 7 = .ok (.ireturn, 1) := by decide +kernel
theorem dX11_code_0 : decode cX11_code 0 = .ok (.iload_n 1, 1) := by decide +kernel
theorem dX11_code_1 : decode cX11_code 1 = .ok (.ifCond .lt 14, 3) := by decide +kernel
theorem dX11_code_4 : decode cX11_code 4 = .ok (.iload_n 1, 1) := by decide +kernel
theorem dX11_code_5 : decode cX11_code 5 = .ok (.aload_n 0, 1) := by decide +kernel
theorem dX11_code_6 : decode cX11_code 6 = .ok (.getfield 55, 3) := by decide +kernel
theorem dX11_code_9 : decode cX11_code 9 = .ok (.invokevirtual 123, 3) := by decide +kernel
theorem dX11_code_12 : decode cX11_code 12 = .ok (.if_icmp .lt 14, 3) := by decide +kernel
theorem dX11_code_15 : decode cX11_code 15 = .ok (.new 248, 3) := by decide +kernel
theorem dX11_code_18 : decode cX11_code 18 = .ok (.dup, 1) := by decide +kernel
theorem dX11_code_19 : decode cX11_code 19 = .ok (.ldc_w 352, 3) := by decide +kernel
theorem dX11_code_22 : decode cX11_code 22 = .ok (.invokespecial 252, 3) := by decide +kernel
theorem dX11_code_25 : decode cX11_code 25 = .ok (.athrow, 1) := by decide +kernel
theorem dX11_code_26 : decode cX11_code 26 = .ok (.aload_n 0, 1) := by decide +kernel
theorem dX11_code_27 : decode cX11_code 27 = .ok (.getfield 55, 3) := by decide +kernel
theorem dX11_code_30 : decode cX11_code 30 = .ok (.iload_n 1, 1) := by decide +kernel
theorem dX11_code_31 : decode cX11_code 31 = .ok (.invokevirtual 163, 3) := by decide +kernel
theorem dX11_code_34 : decode cX11_code 34 = .ok (.checkcast 273, 3) := by decide +kernel
theorem dX11_code_37 : decode cX11_code 37 = .ok (.astore_n 3, 1) := by decide +kernel
theorem dX11_code_38 : decode cX11_code 38 = .ok (.iload_n 2, 1) := by decide +kernel
theorem dX11_code_39 : decode cX11_code 39 = .ok (.tableswitch 82 0 4 #[33, 42, 53, 58, 63], 33) := by decide +kernel
theorem dX11_code_72 : decode cX11_code 72 = .ok (.aload_n 3, 1) := by decide +kernel
theorem dX11_code_73 : decode cX11_code 73 = .ok (.aload_n 0, 1) := by decide +kernel
theorem dX11_code_74 : decode cX11_code 74 = .ok (.getfield 77, 3) := by decide +kernel
theorem dX11_code_77 : decode cX11_code 77 = .ok (.invokevirtual 354, 3) := by decide +kernel
theorem dX11_code_80 : decode cX11_code 80 = .ok (.ireturn, 1) := by decide +kernel
theorem dX11_code_81 : decode cX11_code 81 = .ok (.aload_n 3, 1) := by decide +kernel
theorem dX11_code_82 : decode cX11_code 82 = .ok (.getfield 357, 3) := by decide +kernel
theorem dX11_code_85 : decode cX11_code 85 = .ok (.getfield 361, 3) := by decide +kernel
theorem dX11_code_88 : decode cX11_code 88 = .ok (.getfield 328, 3) := by decide +kernel
theorem dX11_code_91 : decode cX11_code 91 = .ok (.ireturn, 1) := by decide +kernel
theorem dX11_code_92 : decode cX11_code 92 = .ok (.aload_n 3, 1) := by decide +kernel
theorem dX11_code_93 : decode cX11_code 93 = .ok (.getfield 364, 3) := by decide +kernel
theorem dX11_code_96 : decode cX11_code 96 = .ok (.ireturn, 1) := by decide +kernel
theorem dX11_code_97 : decode cX11_code 97 = .ok (.aload_n 3, 1) := by decide +kernel
theorem dX11_code_98 : decode cX11_code 98 = .ok (.getfield 365, 3) := by decide +kernel
theorem dX11_code_101 : decode cX11_code 101 = .ok (.ireturn, 1) := by decide +kernel
theorem dX11_code_102 : decode cX11_code 102 = .ok (.aload_n 3, 1) := by decide +kernel
theorem dX11_code_103 : decode cX11_code 103 = .ok (.getfield 366, 3) := by decide +kernel
theorem dX11_code_106 : decode cX11_code 106 = .ok (.ifnonnull 7, 3) := by decide +kernel
theorem dX11_code_109 : decode cX11_code 109 = .ok (.iconst (-1), 1) := by decide +kernel
theorem dX11_code_110 : decode cX11_code 110 = .ok (.goto 10, 3) := by decide +kernel
theorem dX11_code_113 : decode cX11_code 113 = .ok (.aload_n 3, 1) := by decide +kernel
theorem dX11_code_114 : decode cX11_code 114 = .ok (.getfield 366, 3) := by decide +kernel
theorem dX11_code_117 : decode cX11_code 117 = .ok (.getfield 367, 3) := by decide +kernel
theorem dX11_code_120 : decode cX11_code 120 = .ok (.ireturn, 1) := by decide +kernel
theorem dX11_code_121 : decode cX11_code 121 = .ok (.new 248, 3) := by decide +kernel
theorem dX11_code_124 : decode cX11_code 124 = .ok (.dup, 1) := by decide +kernel
theorem dX11_code_125 : decode cX11_code 125 = .ok (.ldc_w 368, 3) := by decide +kernel
theorem dX11_code_128 : decode cX11_code 128 = .ok (.invokespecial 252, 3) := by decide +kernel
theorem dX11_code_131 : decode cX11_code 131 = .ok (.athrow, 1) := by decide +kernel
theorem dX11_family_0 : decode cX11_family 0 = .ok (.iload_n 1, 1) := by decide +kernel
theorem dX11_family_1 : decode cX11_family 1 = .ok (.ifCond .lt 14, 3) := by decide +kernel
theorem dX11_family_4 : decode cX11_family 4 = .ok (.iload_n 1, 1) := by decide +kernel
theorem dX11_family_5 : decode cX11_family 5 = .ok (.aload_n 0, 1) := by decide +kernel
theorem dX11_family_6 : decode cX11_family 6 = .ok (.getfield 58, 3) := by decide +kernel
theorem dX11_family_9 : decode cX11_family 9 = .ok (.invokevirtual 123, 3) := by decide +kernel
theorem dX11_family_12 : decode cX11_family 12 = .ok (.if_icmp .lt 14, 3) := by decide +kernel
theorem dX11_family_15 : decode cX11_family 15 = .ok (.new 248, 3) := by decide +kernel
theorem dX11_family_18 : decode cX11_family 18 = .ok (.dup, 1) := by decide +kernel
theorem dX11_family_19 : decode cX11_family 19 = .ok (.ldc_w 370, 3) := by decide +kernel
theorem dX11_family_22 : decode cX11_family 22 = .ok (.invokespecial 252, 3) := by decide +kernel
theorem dX11_family_25 : decode cX11_family 25 = .ok (.athrow, 1) := by decide +kernel
theorem dX11_family_26 : decode cX11_family 26 = .ok (.aload_n 0, 1) := by decide +kernel
theorem dX11_family_27 : decode cX11_family 27 = .ok (.getfield 58, 3) := by decide +kernel
theorem dX11_family_30 : decode cX11_family 30 = .ok (.iload_n 1, 1) := by decide +kernel
theorem dX11_family_31 : decode cX11_family 31 = .ok (.invokevirtual 163, 3) := by decide +kernel
theorem dX11_family_34 : decode cX11_family 34 = .ok (.checkcast 324, 3) := by decide +kernel
theorem dX11_family_37 : decode cX11_family 37 = .ok (.astore_n 3, 1) := by decide +kernel
theorem dX11_family_38 : decode cX11_family 38 = .ok (.iload_n 2, 1) := by decide +kernel
theorem dX11_family_39 : decode cX11_family 39 = .ok (.tableswitch 76 0 5 #[37, 50, 55, 60, 65, 71], 37) := by decide +kernel
theorem dX11_family_76 : decode cX11_family 76 = .ok (.aload_n 3, 1) := by decide +kernel
theorem dX11_family_77 : decode cX11_family 77 = .ok (.getfield 331, 3) := by decide +kernel
theorem dX11_family_80 : decode cX11_family 80 = .ok (.ifCond .eq 7, 3) := by decide +kernel
theorem dX11_family_83 : decode cX11_family 83 = .ok (.iconst 1, 1) := by decide +kernel
theorem dX11_family_84 : decode cX11_family 84 = .ok (.goto 4, 3) := by decide +kernel
theorem dX11_family_87 : decode cX11_family 87 = .ok (.iconst 0, 1) := by decide +kernel
theorem dX11_family_88 : decode cX11_family 88 = .ok (.ireturn, 1) := by decide +kernel
theorem dX11_family_89 : decode cX11_family 89 = .ok (.aload_n 3, 1) := by decide +kernel
theorem dX11_family_90 : decode cX11_family 90 = .ok (.getfield 323, 3) := by decide +kernel
theorem dX11_family_93 : decode cX11_family 93 = .ok (.ireturn, 1) := by decide +kernel
theorem dX11_family_94 : decode cX11_family 94 = .ok (.aload_n 3, 1) := by decide +kernel
theorem dX11_family_95 : decode cX11_family 95 = .ok (.getfield 346, 3) := by decide +kernel
theorem dX11_family_98 : decode cX11_family 98 = .ok (.ireturn, 1) := by decide +kernel
theorem dX11_family_99 : decode cX11_family 99 = .ok (.aload_n 3, 1) := by decide +kernel
theorem dX11_family_100 : decode cX11_family 100 = .ok (.getfield 372, 3) := by decide +kernel
theorem dX11_family_103 : decode cX11_family 103 = .ok (.ireturn, 1) := by decide +kernel
theorem dX11_family_104 : decode cX11_family 104 = .ok (.aload_n 0, 1) := by decide +kernel
theorem dX11_family_105 : decode cX11_family 105 = .ok (.iload_n 1, 1) := by decide +kernel
theorem dX11_family_106 : decode cX11_family 106 = .ok (.invokevirtual 373, 3) := by decide +kernel
theorem dX11_family_109 : decode cX11_family 109 = .ok (.ireturn, 1) := by decide +kernel
theorem dX11_family_110 : decode cX11_family 110 = .ok (.aload_n 3, 1) := by decide +kernel
theorem dX11_family_111 : decode cX11_family 111 = .ok (.getfield 376, 3) := by decide +kernel
theorem dX11_family_114 : decode cX11_family 114 = .ok (.ireturn, 1) := by decide +kernel
theorem dX11_family_115 : decode cX11_family 115 = .ok (.new 248, 3) := by decide +kernel
theorem dX11_family_118 : decode cX11_family 118 = .ok (.dup, 1) := by decide +kernel
theorem dX11_family_119 : decode cX11_family 119 = .ok (.ldc_w 379, 3) := by decide +kernel
theorem dX11_family_122 : decode cX11_family 122 = .ok (.invokespecial 252, 3) := by decide +kernel
theorem dX11_family_125 : decode cX11_family 125 = .ok (.athrow, 1) := by decide +kernel
theorem dX11_count_0 : decode cX11_count 0 = .ok (.iload_n 1, 1) := by decide +kernel
theorem dX11_count_1 : decode cX11_count 1 = .ok (.tableswitch 150 0 11 #[63, 71, 79, 87, 95, 100, 108, 116, 124, 132, 137, 142], 63) := by decide +kernel
theorem dX11_count_64 : decode cX11_count 64 = .ok (.aload_n 0, 1) := by decide +kernel
theorem dX11_count_65 : decode cX11_count 65 = .ok (.getfield 45, 3) := by decide +kernel
theorem dX11_count_68 : decode cX11_count 68 = .ok (.invokevirtual 123, 3) := by decide +kernel
theorem dX11_count_71 : decode cX11_count 71 = .ok (.ireturn, 1) := by decide +kernel
theorem dX11_count_72 : decode cX11_count 72 = .ok (.aload_n 0, 1) := by decide +kernel
theorem dX11_count_73 : decode cX11_count 73 = .ok (.getfield 49, 3) := by decide +kernel
theorem dX11_count_76 : decode cX11_count 76 = .ok (.invokevirtual 123, 3) := by decide +kernel
theorem dX11_count_79 : decode cX11_count 79 = .ok (.ireturn, 1) := by decide +kernel
theorem dX11_count_80 : decode cX11_count 80 = .ok (.aload_n 0, 1) := by decide +kernel
theorem dX11_count_81 : decode cX11_count 81 = .ok (.getfield 31, 3) := by decide +kernel
theorem dX11_count_84 : decode cX11_count 84 = .ok (.invokevirtual 181, 3) := by decide +kernel
theorem dX11_count_87 : decode cX11_count 87 = .ok (.ireturn, 1) := by decide +kernel
theorem dX11_count_88 : decode cX11_count 88 = .ok (.aload_n 0, 1) := by decide +kernel
theorem dX11_count_89 : decode cX11_count 89 = .ok (.getfield 52, 3) := by decide +kernel
theorem dX11_count_92 : decode cX11_count 92 = .ok (.invokevirtual 123, 3) := by decide +kernel
theorem dX11_count_95 : decode cX11_count 95 = .ok (.ireturn, 1) := by decide +kernel
theorem dX11_count_96 : decode cX11_count 96 = .ok (.aload_n 0, 1) := by decide +kernel
theorem dX11_count_97 : decode cX11_count 97 = .ok (.invokevirtual 381, 3) := by decide +kernel
theorem dX11_count_100 : decode cX11_count 100 = .ok (.ireturn, 1) := by decide +kernel
theorem dX11_count_101 : decode cX11_count 101 = .ok (.aload_n 0, 1) := by decide +kernel
theorem dX11_count_102 : decode cX11_count 102 = .ok (.getfield 55, 3) := by decide +kernel
theorem dX11_count_105 : decode cX11_count 105 = .ok (.invokevirtual 123, 3) := by decide +kernel
theorem dX11_count_108 : decode cX11_count 108 = .ok (.ireturn, 1) := by decide +kernel
theorem dX11_count_109 : decode cX11_count 109 = .ok (.aload_n 0, 1) := by decide +kernel
theorem dX11_count_110 : decode cX11_count 110 = .ok (.getfield 58, 3) := by decide +kernel
theorem dX11_count_113 : decode cX11_count 113 = .ok (.invokevirtual 123, 3) := by decide +kernel
theorem dX11_count_116 : decode cX11_count 116 = .ok (.ireturn, 1) := by decide +kernel
theorem dX11_count_117 : decode cX11_count 117 = .ok (.aload_n 0, 1) := by decide +kernel
theorem dX11_count_118 : decode cX11_count 118 = .ok (.getfield 61, 3) := by decide +kernel
theorem dX11_count_121 : decode cX11_count 121 = .ok (.invokevirtual 123, 3) := by decide +kernel
theorem dX11_count_124 : decode cX11_count 124 = .ok (.ireturn, 1) := by decide +kernel
theorem dX11_count_125 : decode cX11_count 125 = .ok (.aload_n 0, 1) := by decide +kernel
theorem dX11_count_126 : decode cX11_count 126 = .ok (.getfield 64, 3) := by decide +kernel
theorem dX11_count_129 : decode cX11_count 129 = .ok (.invokevirtual 123, 3) := by decide +kernel
theorem dX11_count_132 : decode cX11_count 132 = .ok (.ireturn, 1) := by decide +kernel
theorem dX11_count_133 : decode cX11_count 133 = .ok (.aload_n 0, 1) := by decide +kernel
theorem dX11_count_134 : decode cX11_count 134 = .ok (.invokevirtual 384, 3) := by decide +kernel
theorem dX11_count_137 : decode cX11_count 137 = .ok (.ireturn, 1) := by decide +kernel
theorem dX11_count_138 : decode cX11_count 138 = .ok (.aload_n 0, 1) := by decide +kernel
theorem dX11_count_139 : decode cX11_count 139 = .ok (.getfield 77, 3) := by decide +kernel
theorem dX11_count_142 : decode cX11_count 142 = .ok (.ireturn, 1) := by decide +kernel
theorem dX11_count_143 : decode cX11_count 143 = .ok (.aload_n 0, 1) := by decide +kernel
theorem dX11_count_144 : decode cX11_count 144 = .ok (.getfield 14, 3) := by decide +kernel
theorem dX11_count_147 : decode cX11_count 147 = .ok (.invokevirtual 86, 3) := by decide +kernel
theorem dX11_count_150 : decode cX11_count 150 = .ok (.ireturn, 1) := by decide +kernel
theorem dX11_count_151 : decode cX11_count 151 = .ok (.iconst (-1), 1) := by decide +kernel
theorem dX11_count_152 : decode cX11_count 152 = .ok (.ireturn, 1) := by decide +kernel
theorem dX11_readForm_0 : decode cX11_readForm 0 = .ok (.aload_n 0, 1) := by decide +kernel
theorem dX11_readForm_1 : decode cX11_readForm 1 = .ok (.getfield 24, 3) := by decide +kernel
theorem dX11_readForm_4 : decode cX11_readForm 4 = .ok (.aload_n 0, 1) := by decide +kernel
theorem dX11_readForm_5 : decode cX11_readForm 5 = .ok (.getfield 14, 3) := by decide +kernel
theorem dX11_readForm_8 : decode cX11_readForm 8 = .ok (.invokevirtual 387, 3) := by decide +kernel
theorem dX11_readForm_11 : decode cX11_readForm 11 = .ok (.istore_n 1, 1) := by decide +kernel
theorem dX11_readForm_12 : decode cX11_readForm 12 = .ok (.aload_n 0, 1) := by decide +kernel
theorem dX11_readForm_13 : decode cX11_readForm 13 = .ok (.getfield 14, 3) := by decide +kernel
theorem dX11_readForm_16 : decode cX11_readForm 16 = .ok (.invokevirtual 109, 3) := by decide +kernel
theorem dX11_readForm_19 : decode cX11_readForm 19 = .ok (.iload_n 1, 1) := by decide +kernel
theorem dX11_readForm_20 : decode cX11_readForm 20 = .ok (.ireturn, 1) := by decide +kernel
theorem dX11_isScopeWord_0 : decode cX11_isScopeWord 0 = .ok (.aload_n 0, 1) := by decide +kernel
theorem dX11_isScopeWord_1 : decode cX11_isScopeWord 1 = .ok (.bipush 12, 2) := by decide +kernel
theorem dX11_isScopeWord_3 : decode cX11_isScopeWord 3 = .ok (.invokevirtual 390, 3) := by decide +kernel
theorem dX11_isScopeWord_6 : decode cX11_isScopeWord 6 = .ok (.ifCond .eq 25, 3) := by decide +kernel
theorem dX11_isScopeWord_9 : decode cX11_isScopeWord 9 = .ok (.aload_n 0, 1) := by decide +kernel
theorem dX11_isScopeWord_10 : decode cX11_isScopeWord 10 = .ok (.bipush 34, 2) := by decide +kernel
theorem dX11_isScopeWord_12 : decode cX11_isScopeWord 12 = .ok (.invokevirtual 393, 3) := by decide +kernel
theorem dX11_isScopeWord_15 : decode cX11_isScopeWord 15 = .ok (.ifCond .ne 16, 3) := by decide +kernel
theorem dX11_isScopeWord_18 : decode cX11_isScopeWord 18 = .ok (.aload_n 0, 1) := by decide +kernel
theorem dX11_isScopeWord_19 : decode cX11_isScopeWord 19 = .ok (.bipush 92, 2) := by decide +kernel
theorem dX11_isScopeWord_21 : decode cX11_isScopeWord 21 = .ok (.invokevirtual 393, 3) := by decide +kernel
theorem dX11_isScopeWord_24 : decode cX11_isScopeWord 24 = .ok (.ifCond .ne 7, 3) := by decide +kernel
theorem dX11_isScopeWord_27 : decode cX11_isScopeWord 27 = .ok (.iconst 1, 1) := by decide +kernel
theorem dX11_isScopeWord_28 : decode cX11_isScopeWord 28 = .ok (.goto 4, 3) := by decide +kernel
theorem dX11_isScopeWord_31 : decode cX11_isScopeWord 31 = .ok (.iconst 0, 1) := by decide +kernel
theorem dX11_isScopeWord_32 : decode cX11_isScopeWord 32 = .ok (.ireturn, 1) := by decide +kernel
theorem dX11_isRedirect_0 : decode cX11_isRedirect 0 = .ok (.aload_n 0, 1) := by decide +kernel
theorem dX11_isRedirect_1 : decode cX11_isRedirect 1 = .ok (.bipush 80, 2) := by decide +kernel
theorem dX11_isRedirect_3 : decode cX11_isRedirect 3 = .ok (.invokevirtual 390, 3) := by decide +kernel
theorem dX11_isRedirect_6 : decode cX11_isRedirect 6 = .ok (.ifCond .eq 16, 3) := by decide +kernel
theorem dX11_isRedirect_9 : decode cX11_isRedirect 9 = .ok (.aload_n 0, 1) := by decide +kernel
theorem dX11_isRedirect_10 : decode cX11_isRedirect 10 = .ok (.bipush 35, 2) := by decide +kernel
theorem dX11_isRedirect_12 : decode cX11_isRedirect 12 = .ok (.invokevirtual 393, 3) := by decide +kernel
theorem dX11_isRedirect_15 : decode cX11_isRedirect 15 = .ok (.ifCond .ne 7, 3) := by decide +kernel
theorem dX11_isRedirect_18 : decode cX11_isRedirect 18 = .ok (.iconst 1, 1) := by decide +kernel
theorem dX11_isRedirect_19 : decode cX11_isRedirect 19 = .ok (.goto 4, 3) := by decide +kernel
theorem dX11_isRedirect_22 : decode cX11_isRedirect 22 = .ok (.iconst 0, 1) := by decide +kernel
theorem dX11_isRedirect_23 : decode cX11_isRedirect 23 = .ok (.ireturn, 1) := by decide +kernel
theorem dX11_isLife_0 : decode cX11_isLife 0 = .ok (.iload_n 0, 1) := by decide +kernel
theorem dX11_isLife_1 : decode cX11_isLife 1 = .ok (.iconst 1, 1) := by decide +kernel
theorem dX11_isLife_2 : decode cX11_isLife 2 = .ok (.if_icmp .lt 14, 3) := by decide +kernel
theorem dX11_isLife_5 : decode cX11_isLife 5 = .ok (.iload_n 0, 1) := by decide +kernel
theorem dX11_isLife_6 : decode cX11_isLife 6 = .ok (.ldc_w 396, 3) := by decide +kernel
theorem dX11_isLife_9 : decode cX11_isLife 9 = .ok (.if_icmp .gt 7, 3) := by decide +kernel
theorem dX11_isLife_12 : decode cX11_isLife 12 = .ok (.iconst 1, 1) := by decide +kernel
theorem dX11_isLife_13 : decode cX11_isLife 13 = .ok (.goto 4, 3) := by decide +kernel
theorem dX11_isLife_16 : decode cX11_isLife 16 = .ok (.iconst 0, 1) := by decide +kernel
theorem dX11_isLife_17 : decode cX11_isLife 17 = .ok (.ireturn, 1) := by decide +kernel
theorem dX11_isWithin_0 : decode cX11_isWithin 0 = .ok (.iload_n 0, 1) := by decide +kernel
theorem dX11_isWithin_1 : decode cX11_isWithin 1 = .ok (.iload_n 1, 1) := by decide +kernel
theorem dX11_isWithin_2 : decode cX11_isWithin 2 = .ok (.iconst (-1), 1) := by decide +kernel
theorem dX11_isWithin_3 : decode cX11_isWithin 3 = .ok (.ixor, 1) := by decide +kernel
theorem dX11_isWithin_4 : decode cX11_isWithin 4 = .ok (.iand, 1) := by decide +kernel
theorem dX11_isWithin_5 : decode cX11_isWithin 5 = .ok (.ifCond .ne 7, 3) := by decide +kernel
theorem dX11_isWithin_8 : decode cX11_isWithin 8 = .ok (.iconst 1, 1) := by decide +kernel
theorem dX11_isWithin_9 : decode cX11_isWithin 9 = .ok (.goto 4, 3) := by decide +kernel
theorem dX11_isWithin_12 : decode cX11_isWithin 12 = .ok (.iconst 0, 1) := by decide +kernel
theorem dX11_isWithin_13 : decode cX11_isWithin 13 = .ok (.ireturn, 1) := by decide +kernel
theorem dX11_areScopes_0 : decode cX11_areScopes 0 = .ok (.iload_n 1, 1) := by decide +kernel
theorem dX11_areScopes_1 : decode cX11_areScopes 1 = .ok (.iconst 1, 1) := by decide +kernel
theorem dX11_areScopes_2 : decode cX11_areScopes 2 = .ok (.aload_n 0, 1) := by decide +kernel
theorem dX11_areScopes_3 : decode cX11_areScopes 3 = .ok (.getfield 45, 3) := by decide +kernel
theorem dX11_areScopes_6 : decode cX11_areScopes 6 = .ok (.invokevirtual 123, 3) := by decide +kernel
theorem dX11_areScopes_9 : decode cX11_areScopes 9 = .ok (.ishl, 1) := by decide +kernel
theorem dX11_areScopes_10 : decode cX11_areScopes 10 = .ok (.iconst 1, 1) := by decide +kernel
theorem dX11_areScopes_11 : decode cX11_areScopes 11 = .ok (.isub, 1) := by decide +kernel
theorem dX11_areScopes_12 : decode cX11_areScopes 12 = .ok (.invokestatic 254, 3) := by decide +kernel
theorem dX11_areScopes_15 : decode cX11_areScopes 15 = .ok (.ireturn, 1) := by decide +kernel
theorem dX11_scopeOf_0 : decode cX11_scopeOf 0 = .ok (.iconst 0, 1) := by decide +kernel
theorem dX11_scopeOf_1 : decode cX11_scopeOf 1 = .ok (.istore 4, 2) := by decide +kernel
theorem dX11_scopeOf_3 : decode cX11_scopeOf 3 = .ok (.iload 4, 2) := by decide +kernel
theorem dX11_scopeOf_5 : decode cX11_scopeOf 5 = .ok (.aload_n 0, 1) := by decide +kernel
theorem dX11_scopeOf_6 : decode cX11_scopeOf 6 = .ok (.getfield 45, 3) := by decide +kernel
theorem dX11_scopeOf_9 : decode cX11_scopeOf 9 = .ok (.invokevirtual 123, 3) := by decide +kernel
theorem dX11_scopeOf_12 : decode cX11_scopeOf 12 = .ok (.if_icmp .ge 33, 3) := by decide +kernel
theorem dX11_scopeOf_15 : decode cX11_scopeOf 15 = .ok (.aload_n 1, 1) := by decide +kernel
theorem dX11_scopeOf_16 : decode cX11_scopeOf 16 = .ok (.iload_n 2, 1) := by decide +kernel
theorem dX11_scopeOf_17 : decode cX11_scopeOf 17 = .ok (.iload_n 3, 1) := by decide +kernel
theorem dX11_scopeOf_18 : decode cX11_scopeOf 18 = .ok (.aload_n 0, 1) := by decide +kernel
theorem dX11_scopeOf_19 : decode cX11_scopeOf 19 = .ok (.getfield 45, 3) := by decide +kernel
theorem dX11_scopeOf_22 : decode cX11_scopeOf 22 = .ok (.iload 4, 2) := by decide +kernel
theorem dX11_scopeOf_24 : decode cX11_scopeOf 24 = .ok (.invokevirtual 163, 3) := by decide +kernel
theorem dX11_scopeOf_27 : decode cX11_scopeOf 27 = .ok (.checkcast 7, 3) := by decide +kernel
theorem dX11_scopeOf_30 : decode cX11_scopeOf 30 = .ok (.invokevirtual 397, 3) := by decide +kernel
theorem dX11_scopeOf_33 : decode cX11_scopeOf 33 = .ok (.ifCond .eq 6, 3) := by decide +kernel
theorem dX11_scopeOf_36 : decode cX11_scopeOf 36 = .ok (.iload 4, 2) := by decide +kernel
theorem dX11_scopeOf_38 : decode cX11_scopeOf 38 = .ok (.ireturn, 1) := by decide +kernel
theorem dX11_scopeOf_39 : decode cX11_scopeOf 39 = .ok (.iinc 4 1, 3) := by decide +kernel
theorem dX11_scopeOf_42 : decode cX11_scopeOf 42 = .ok (.goto (-39), 3) := by decide +kernel
theorem dX11_scopeOf_45 : decode cX11_scopeOf 45 = .ok (.iconst (-1), 1) := by decide +kernel
theorem dX11_scopeOf_46 : decode cX11_scopeOf 46 = .ok (.ireturn, 1) := by decide +kernel
theorem dX11_scopesTold_0 : decode cX11_scopesTold 0 = .ok (.aload_n 0, 1) := by decide +kernel
theorem dX11_scopesTold_1 : decode cX11_scopesTold 1 = .ok (.getfield 24, 3) := by decide +kernel
theorem dX11_scopesTold_4 : decode cX11_scopesTold 4 = .ok (.getfield 401, 3) := by decide +kernel
theorem dX11_scopesTold_7 : decode cX11_scopesTold 7 = .ok (.invokevirtual 285, 3) := by decide +kernel
theorem dX11_scopesTold_10 : decode cX11_scopesTold 10 = .ok (.ifCond .ne 5, 3) := by decide +kernel
theorem dX11_scopesTold_13 : decode cX11_scopesTold 13 = .ok (.iload_n 1, 1) := by decide +kernel
theorem dX11_scopesTold_14 : decode cX11_scopesTold 14 = .ok (.ireturn, 1) := by decide +kernel
theorem dX11_scopesTold_15 : decode cX11_scopesTold 15 = .ok (.aload_n 0, 1) := by decide +kernel
theorem dX11_scopesTold_16 : decode cX11_scopesTold 16 = .ok (.getfield 24, 3) := by decide +kernel
theorem dX11_scopesTold_19 : decode cX11_scopesTold 19 = .ok (.getfield 401, 3) := by decide +kernel
theorem dX11_scopesTold_22 : decode cX11_scopesTold 22 = .ok (.getfield 199, 3) := by decide +kernel
theorem dX11_scopesTold_25 : decode cX11_scopesTold 25 = .ok (.astore_n 2, 1) := by decide +kernel
theorem dX11_scopesTold_26 : decode cX11_scopesTold 26 = .ok (.iconst 0, 1) := by decide +kernel
theorem dX11_scopesTold_27 : decode cX11_scopesTold 27 = .ok (.istore_n 3, 1) := by decide +kernel
theorem dX11_scopesTold_28 : decode cX11_scopesTold 28 = .ok (.iconst 0, 1) := by decide +kernel
theorem dX11_scopesTold_29 : decode cX11_scopesTold 29 = .ok (.istore 4, 2) := by decide +kernel
theorem dX11_scopesTold_31 : decode cX11_scopesTold 31 = .ok (.iconst 0, 1) := by decide +kernel
theorem dX11_scopesTold_32 : decode cX11_scopesTold 32 = .ok (.istore 5, 2) := by decide +kernel
theorem dX11_scopesTold_34 : decode cX11_scopesTold 34 = .ok (.iload 5, 2) := by decide +kernel
theorem dX11_scopesTold_36 : decode cX11_scopesTold 36 = .ok (.aload_n 2, 1) := by decide +kernel
theorem dX11_scopesTold_37 : decode cX11_scopesTold 37 = .ok (.invokevirtual 86, 3) := by decide +kernel
theorem dX11_scopesTold_40 : decode cX11_scopesTold 40 = .ok (.if_icmp .gt 84, 3) := by decide +kernel
theorem dX11_scopesTold_43 : decode cX11_scopesTold 43 = .ok (.iload 5, 2) := by decide +kernel
theorem dX11_scopesTold_45 : decode cX11_scopesTold 45 = .ok (.aload_n 2, 1) := by decide +kernel
theorem dX11_scopesTold_46 : decode cX11_scopesTold 46 = .ok (.invokevirtual 86, 3) := by decide +kernel
theorem dX11_scopesTold_49 : decode cX11_scopesTold 49 = .ok (.if_icmp .ge 17, 3) := by decide +kernel
theorem dX11_scopesTold_52 : decode cX11_scopesTold 52 = .ok (.aload_n 2, 1) := by decide +kernel
theorem dX11_scopesTold_53 : decode cX11_scopesTold 53 = .ok (.iload 5, 2) := by decide +kernel
theorem dX11_scopesTold_55 : decode cX11_scopesTold 55 = .ok (.invokevirtual 349, 3) := by decide +kernel
theorem dX11_scopesTold_58 : decode cX11_scopesTold 58 = .ok (.bipush 32, 2) := by decide +kernel
theorem dX11_scopesTold_60 : decode cX11_scopesTold 60 = .ok (.if_icmp .eq 6, 3) := by decide +kernel
theorem dX11_scopesTold_63 : decode cX11_scopesTold 63 = .ok (.goto 55, 3) := by decide +kernel
theorem dX11_scopesTold_66 : decode cX11_scopesTold 66 = .ok (.aload_n 0, 1) := by decide +kernel
theorem dX11_scopesTold_67 : decode cX11_scopesTold 67 = .ok (.aload_n 2, 1) := by decide +kernel
theorem dX11_scopesTold_68 : decode cX11_scopesTold 68 = .ok (.iload 4, 2) := by decide +kernel
theorem dX11_scopesTold_70 : decode cX11_scopesTold 70 = .ok (.iload 5, 2) := by decide +kernel
theorem dX11_scopesTold_72 : decode cX11_scopesTold 72 = .ok (.iload 4, 2) := by decide +kernel
theorem dX11_scopesTold_74 : decode cX11_scopesTold 74 = .ok (.isub, 1) := by decide +kernel
theorem dX11_scopesTold_75 : decode cX11_scopesTold 75 = .ok (.invokevirtual 112, 3) := by decide +kernel
theorem dX11_scopesTold_78 : decode cX11_scopesTold 78 = .ok (.istore 6, 2) := by decide +kernel
theorem dX11_scopesTold_80 : decode cX11_scopesTold 80 = .ok (.iload 6, 2) := by decide +kernel
theorem dX11_scopesTold_82 : decode cX11_scopesTold 82 = .ok (.iconst (-1), 1) := by decide +kernel
theorem dX11_scopesTold_83 : decode cX11_scopesTold 83 = .ok (.if_icmp .ne 12, 3) := by decide +kernel
theorem dX11_scopesTold_86 : decode cX11_scopesTold 86 = .ok (.iload 5, 2) := by decide +kernel
theorem dX11_scopesTold_88 : decode cX11_scopesTold 88 = .ok (.iload 4, 2) := by decide +kernel
theorem dX11_scopesTold_90 : decode cX11_scopesTold 90 = .ok (.if_icmp .le 5, 3) := by decide +kernel
theorem dX11_scopesTold_93 : decode cX11_scopesTold 93 = .ok (.iconst (-1), 1) := by decide +kernel
theorem dX11_scopesTold_94 : decode cX11_scopesTold 94 = .ok (.ireturn, 1) := by decide +kernel
theorem dX11_scopesTold_95 : decode cX11_scopesTold 95 = .ok (.iload_n 3, 1) := by decide +kernel
theorem dX11_scopesTold_96 : decode cX11_scopesTold 96 = .ok (.iload 6, 2) := by decide +kernel
theorem dX11_scopesTold_98 : decode cX11_scopesTold 98 = .ok (.iconst (-1), 1) := by decide +kernel
theorem dX11_scopesTold_99 : decode cX11_scopesTold 99 = .ok (.if_icmp .ne 7, 3) := by decide +kernel
theorem dX11_scopesTold_102 : decode cX11_scopesTold 102 = .ok (.iconst 0, 1) := by decide +kernel
theorem dX11_scopesTold_103 : decode cX11_scopesTold 103 = .ok (.goto 7, 3) := by decide +kernel
theorem dX11_scopesTold_106 : decode cX11_scopesTold 106 = .ok (.iconst 1, 1) := by decide +kernel
theorem dX11_scopesTold_107 : decode cX11_scopesTold 107 = .ok (.iload 6, 2) := by decide +kernel
theorem dX11_scopesTold_109 : decode cX11_scopesTold 109 = .ok (.ishl, 1) := by decide +kernel
theorem dX11_scopesTold_110 : decode cX11_scopesTold 110 = .ok (.ior, 1) := by decide +kernel
theorem dX11_scopesTold_111 : decode cX11_scopesTold 111 = .ok (.istore_n 3, 1) := by decide +kernel
theorem dX11_scopesTold_112 : decode cX11_scopesTold 112 = .ok (.iload 5, 2) := by decide +kernel
theorem dX11_scopesTold_114 : decode cX11_scopesTold 114 = .ok (.iconst 1, 1) := by decide +kernel
theorem dX11_scopesTold_115 : decode cX11_scopesTold 115 = .ok (.iadd, 1) := by decide +kernel
theorem dX11_scopesTold_116 : decode cX11_scopesTold 116 = .ok (.istore 4, 2) := by decide +kernel
theorem dX11_scopesTold_118 : decode cX11_scopesTold 118 = .ok (.iinc 5 1, 3) := by decide +kernel
theorem dX11_scopesTold_121 : decode cX11_scopesTold 121 = .ok (.goto (-87), 3) := by decide +kernel
theorem dX11_scopesTold_124 : decode cX11_scopesTold 124 = .ok (.iload_n 3, 1) := by decide +kernel
theorem dX11_scopesTold_125 : decode cX11_scopesTold 125 = .ok (.ireturn, 1) := by decide +kernel
theorem dX11_clientOnTape_0 : decode cX11_clientOnTape 0 = .ok (.iload_n 1, 1) := by decide +kernel
theorem dX11_clientOnTape_1 : decode cX11_clientOnTape 1 = .ok (.ifCond .eq 22, 3) := by decide +kernel
theorem dX11_clientOnTape_4 : decode cX11_clientOnTape 4 = .ok (.aload_n 0, 1) := by decide +kernel
theorem dX11_clientOnTape_5 : decode cX11_clientOnTape 5 = .ok (.getfield 14, 3) := by decide +kernel
theorem dX11_clientOnTape_8 : decode cX11_clientOnTape 8 = .ok (.iconst 0, 1) := by decide +kernel
theorem dX11_clientOnTape_9 : decode cX11_clientOnTape 9 = .ok (.iconst 0, 1) := by decide +kernel
theorem dX11_clientOnTape_10 : decode cX11_clientOnTape 10 = .ok (.aload_n 0, 1) := by decide +kernel
theorem dX11_clientOnTape_11 : decode cX11_clientOnTape 11 = .ok (.getfield 14, 3) := by decide +kernel
theorem dX11_clientOnTape_14 : decode cX11_clientOnTape 14 = .ok (.invokevirtual 86, 3) := by decide +kernel
theorem dX11_clientOnTape_17 : decode cX11_clientOnTape 17 = .ok (.invokevirtual 404, 3) := by decide +kernel
theorem dX11_clientOnTape_20 : decode cX11_clientOnTape 20 = .ok (.goto 10, 3) := by decide +kernel
theorem dX11_clientOnTape_23 : decode cX11_clientOnTape 23 = .ok (.aload_n 0, 1) := by decide +kernel
theorem dX11_clientOnTape_24 : decode cX11_clientOnTape 24 = .ok (.getfield 14, 3) := by decide +kernel
theorem dX11_clientOnTape_27 : decode cX11_clientOnTape 27 = .ok (.invokevirtual 86, 3) := by decide +kernel
theorem dX11_clientOnTape_30 : decode cX11_clientOnTape 30 = .ok (.istore 4, 2) := by decide +kernel
theorem dX11_clientOnTape_32 : decode cX11_clientOnTape 32 = .ok (.aload_n 0, 1) := by decide +kernel
theorem dX11_clientOnTape_33 : decode cX11_clientOnTape 33 = .ok (.getfield 14, 3) := by decide +kernel
theorem dX11_clientOnTape_36 : decode cX11_clientOnTape 36 = .ok (.iconst 0, 1) := by decide +kernel
theorem dX11_clientOnTape_37 : decode cX11_clientOnTape 37 = .ok (.iload 4, 2) := by decide +kernel
theorem dX11_clientOnTape_39 : decode cX11_clientOnTape 39 = .ok (.invokevirtual 105, 3) := by decide +kernel
theorem dX11_clientOnTape_42 : decode cX11_clientOnTape 42 = .ok (.astore 5, 2) := by decide +kernel
theorem dX11_clientOnTape_44 : decode cX11_clientOnTape 44 = .ok (.aload_n 0, 1) := by decide +kernel
theorem dX11_clientOnTape_45 : decode cX11_clientOnTape 45 = .ok (.getfield 14, 3) := by decide +kernel
theorem dX11_clientOnTape_48 : decode cX11_clientOnTape 48 = .ok (.iload 4, 2) := by decide +kernel
theorem dX11_clientOnTape_50 : decode cX11_clientOnTape 50 = .ok (.iconst 1, 1) := by decide +kernel
theorem dX11_clientOnTape_51 : decode cX11_clientOnTape 51 = .ok (.iadd, 1) := by decide +kernel
theorem dX11_clientOnTape_52 : decode cX11_clientOnTape 52 = .ok (.aload_n 0, 1) := by decide +kernel
theorem dX11_clientOnTape_53 : decode cX11_clientOnTape 53 = .ok (.getfield 14, 3) := by decide +kernel
theorem dX11_clientOnTape_56 : decode cX11_clientOnTape 56 = .ok (.invokevirtual 86, 3) := by decide +kernel
theorem dX11_clientOnTape_59 : decode cX11_clientOnTape 59 = .ok (.iload 4, 2) := by decide +kernel
theorem dX11_clientOnTape_61 : decode cX11_clientOnTape 61 = .ok (.isub, 1) := by decide +kernel
theorem dX11_clientOnTape_62 : decode cX11_clientOnTape 62 = .ok (.iconst 1, 1) := by decide +kernel
theorem dX11_clientOnTape_63 : decode cX11_clientOnTape 63 = .ok (.isub, 1) := by decide +kernel
theorem dX11_clientOnTape_64 : decode cX11_clientOnTape 64 = .ok (.invokevirtual 105, 3) := by decide +kernel
theorem dX11_clientOnTape_67 : decode cX11_clientOnTape 67 = .ok (.astore 6, 2) := by decide +kernel
theorem dX11_clientOnTape_69 : decode cX11_clientOnTape 69 = .ok (.aload 5, 2) := by decide +kernel
theorem dX11_clientOnTape_71 : decode cX11_clientOnTape 71 = .ok (.bipush 20, 2) := by decide +kernel
theorem dX11_clientOnTape_73 : decode cX11_clientOnTape 73 = .ok (.invokevirtual 390, 3) := by decide +kernel
theorem dX11_clientOnTape_76 : decode cX11_clientOnTape 76 = .ok (.ifCond .eq 17, 3) := by decide +kernel
theorem dX11_clientOnTape_79 : decode cX11_clientOnTape 79 = .ok (.iload_n 1, 1) := by decide +kernel
theorem dX11_clientOnTape_80 : decode cX11_clientOnTape 80 = .ok (.ifCond .eq 15, 3) := by decide +kernel
theorem dX11_clientOnTape_83 : decode cX11_clientOnTape 83 = .ok (.aload 6, 2) := by decide +kernel
theorem dX11_clientOnTape_85 : decode cX11_clientOnTape 85 = .ok (.bipush 20, 2) := by decide +kernel
theorem dX11_clientOnTape_87 : decode cX11_clientOnTape 87 = .ok (.invokevirtual 390, 3) := by decide +kernel
theorem dX11_clientOnTape_90 : decode cX11_clientOnTape 90 = .ok (.ifCond .ne 5, 3) := by decide +kernel
theorem dX11_clientOnTape_93 : decode cX11_clientOnTape 93 = .ok (.aconst_null, 1) := by decide +kernel
theorem dX11_clientOnTape_94 : decode cX11_clientOnTape 94 = .ok (.areturn, 1) := by decide +kernel
theorem dX11_clientOnTape_95 : decode cX11_clientOnTape 95 = .ok (.new 141, 3) := by decide +kernel
theorem dX11_clientOnTape_98 : decode cX11_clientOnTape 98 = .ok (.dup, 1) := by decide +kernel
theorem dX11_clientOnTape_99 : decode cX11_clientOnTape 99 = .ok (.aload_n 0, 1) := by decide +kernel
theorem dX11_clientOnTape_100 : decode cX11_clientOnTape 100 = .ok (.getfield 49, 3) := by decide +kernel
theorem dX11_clientOnTape_103 : decode cX11_clientOnTape 103 = .ok (.invokevirtual 123, 3) := by decide +kernel
theorem dX11_clientOnTape_106 : decode cX11_clientOnTape 106 = .ok (.aload 5, 2) := by decide +kernel
theorem dX11_clientOnTape_108 : decode cX11_clientOnTape 108 = .ok (.iload_n 1, 1) := by decide +kernel
theorem dX11_clientOnTape_109 : decode cX11_clientOnTape 109 = .ok (.ifCond .eq 8, 3) := by decide +kernel
theorem dX11_clientOnTape_112 : decode cX11_clientOnTape 112 = .ok (.aload 6, 2) := by decide +kernel
theorem dX11_clientOnTape_114 : decode cX11_clientOnTape 114 = .ok (.goto 4, 3) := by decide +kernel
theorem dX11_clientOnTape_117 : decode cX11_clientOnTape 117 = .ok (.aconst_null, 1) := by decide +kernel
theorem dX11_clientOnTape_118 : decode cX11_clientOnTape 118 = .ok (.iload_n 2, 1) := by decide +kernel
theorem dX11_clientOnTape_119 : decode cX11_clientOnTape 119 = .ok (.iload_n 3, 1) := by decide +kernel
theorem dX11_clientOnTape_120 : decode cX11_clientOnTape 120 = .ok (.invokespecial 408, 3) := by decide +kernel
theorem dX11_clientOnTape_123 : decode cX11_clientOnTape 123 = .ok (.areturn, 1) := by decide +kernel
theorem dX11_clientOf_0 : decode cX11_clientOf 0 = .ok (.iconst 0, 1) := by decide +kernel
theorem dX11_clientOf_1 : decode cX11_clientOf 1 = .ok (.istore_n 2, 1) := by decide +kernel
theorem dX11_clientOf_2 : decode cX11_clientOf 2 = .ok (.iload_n 2, 1) := by decide +kernel
theorem dX11_clientOf_3 : decode cX11_clientOf 3 = .ok (.aload_n 0, 1) := by decide +kernel
theorem dX11_clientOf_4 : decode cX11_clientOf 4 = .ok (.getfield 49, 3) := by decide +kernel
theorem dX11_clientOf_7 : decode cX11_clientOf 7 = .ok (.invokevirtual 123, 3) := by decide +kernel
theorem dX11_clientOf_10 : decode cX11_clientOf 10 = .ok (.if_icmp .ge 42, 3) := by decide +kernel
theorem dX11_clientOf_13 : decode cX11_clientOf 13 = .ok (.aload_n 1, 1) := by decide +kernel
theorem dX11_clientOf_14 : decode cX11_clientOf 14 = .ok (.aload_n 0, 1) := by decide +kernel
theorem dX11_clientOf_15 : decode cX11_clientOf 15 = .ok (.getfield 49, 3) := by decide +kernel
theorem dX11_clientOf_18 : decode cX11_clientOf 18 = .ok (.iload_n 2, 1) := by decide +kernel
theorem dX11_clientOf_19 : decode cX11_clientOf 19 = .ok (.invokevirtual 163, 3) := by decide +kernel
theorem dX11_clientOf_22 : decode cX11_clientOf 22 = .ok (.checkcast 141, 3) := by decide +kernel
theorem dX11_clientOf_25 : decode cX11_clientOf 25 = .ok (.getfield 140, 3) := by decide +kernel
theorem dX11_clientOf_28 : decode cX11_clientOf 28 = .ok (.invokevirtual 411, 3) := by decide +kernel
theorem dX11_clientOf_31 : decode cX11_clientOf 31 = .ok (.ifCond .eq 15, 3) := by decide +kernel
theorem dX11_clientOf_34 : decode cX11_clientOf 34 = .ok (.aload_n 0, 1) := by decide +kernel
theorem dX11_clientOf_35 : decode cX11_clientOf 35 = .ok (.getfield 49, 3) := by decide +kernel
theorem dX11_clientOf_38 : decode cX11_clientOf 38 = .ok (.iload_n 2, 1) := by decide +kernel
theorem dX11_clientOf_39 : decode cX11_clientOf 39 = .ok (.invokevirtual 163, 3) := by decide +kernel
theorem dX11_clientOf_42 : decode cX11_clientOf 42 = .ok (.checkcast 141, 3) := by decide +kernel
theorem dX11_clientOf_45 : decode cX11_clientOf 45 = .ok (.areturn, 1) := by decide +kernel
theorem dX11_clientOf_46 : decode cX11_clientOf 46 = .ok (.iinc 2 1, 3) := by decide +kernel
theorem dX11_clientOf_49 : decode cX11_clientOf 49 = .ok (.goto (-47), 3) := by decide +kernel
theorem dX11_clientOf_52 : decode cX11_clientOf 52 = .ok (.aconst_null, 1) := by decide +kernel
theorem dX11_clientOf_53 : decode cX11_clientOf 53 = .ok (.areturn, 1) := by decide +kernel
theorem dX11_whoAsks_0 : decode cX11_whoAsks 0 = .ok (.aload_n 0, 1) := by decide +kernel
theorem dX11_whoAsks_1 : decode cX11_whoAsks 1 = .ok (.aload_n 0, 1) := by decide +kernel
theorem dX11_whoAsks_2 : decode cX11_whoAsks 2 = .ok (.getfield 24, 3) := by decide +kernel
theorem dX11_whoAsks_5 : decode cX11_whoAsks 5 = .ok (.getfield 195, 3) := by decide +kernel
theorem dX11_whoAsks_8 : decode cX11_whoAsks 8 = .ok (.getfield 199, 3) := by decide +kernel
theorem dX11_whoAsks_11 : decode cX11_whoAsks 11 = .ok (.invokevirtual 145, 3) := by decide +kernel
theorem dX11_whoAsks_14 : decode cX11_whoAsks 14 = .ok (.astore_n 1, 1) := by decide +kernel
theorem dX11_whoAsks_15 : decode cX11_whoAsks 15 = .ok (.aload_n 1, 1) := by decide +kernel
theorem dX11_whoAsks_16 : decode cX11_whoAsks 16 = .ok (.ifnull 21, 3) := by decide +kernel
theorem dX11_whoAsks_19 : decode cX11_whoAsks 19 = .ok (.aload_n 1, 1) := by decide +kernel
theorem dX11_whoAsks_20 : decode cX11_whoAsks 20 = .ok (.aload_n 0, 1) := by decide +kernel
theorem dX11_whoAsks_21 : decode cX11_whoAsks 21 = .ok (.getfield 24, 3) := by decide +kernel
theorem dX11_whoAsks_24 : decode cX11_whoAsks 24 = .ok (.getfield 414, 3) := by decide +kernel
theorem dX11_whoAsks_27 : decode cX11_whoAsks 27 = .ok (.invokevirtual 417, 3) := by decide +kernel
theorem dX11_whoAsks_30 : decode cX11_whoAsks 30 = .ok (.ifCond .eq 7, 3) := by decide +kernel
theorem dX11_whoAsks_33 : decode cX11_whoAsks 33 = .ok (.aload_n 1, 1) := by decide +kernel
theorem dX11_whoAsks_34 : decode cX11_whoAsks 34 = .ok (.goto 4, 3) := by decide +kernel
theorem dX11_whoAsks_37 : decode cX11_whoAsks 37 = .ok (.aconst_null, 1) := by decide +kernel
theorem dX11_whoAsks_38 : decode cX11_whoAsks 38 = .ok (.areturn, 1) := by decide +kernel
theorem dX11_faultOfRequest_0 : decode cX11_faultOfRequest 0 = .ok (.aload_n 0, 1) := by decide +kernel
theorem dX11_faultOfRequest_1 : decode cX11_faultOfRequest 1 = .ok (.getfield 24, 3) := by decide +kernel
theorem dX11_faultOfRequest_4 : decode cX11_faultOfRequest 4 = .ok (.getfield 421, 3) := by decide +kernel
theorem dX11_faultOfRequest_7 : decode cX11_faultOfRequest 7 = .ok (.invokevirtual 285, 3) := by decide +kernel
theorem dX11_faultOfRequest_10 : decode cX11_faultOfRequest 10 = .ok (.ifCond .ne 5, 3) := by decide +kernel
theorem dX11_faultOfRequest_13 : decode cX11_faultOfRequest 13 = .ok (.iconst 1, 1) := by decide +kernel
theorem dX11_faultOfRequest_14 : decode cX11_faultOfRequest 14 = .ok (.ireturn, 1) := by decide +kernel
theorem dX11_faultOfRequest_15 : decode cX11_faultOfRequest 15 = .ok (.aload_n 0, 1) := by decide +kernel
theorem dX11_faultOfRequest_16 : decode cX11_faultOfRequest 16 = .ok (.getfield 24, 3) := by decide +kernel
theorem dX11_faultOfRequest_19 : decode cX11_faultOfRequest 19 = .ok (.getfield 421, 3) := by decide +kernel
theorem dX11_faultOfRequest_22 : decode cX11_faultOfRequest 22 = .ok (.getfield 199, 3) := by decide +kernel
theorem dX11_faultOfRequest_25 : decode cX11_faultOfRequest 25 = .ok (.ldc_w 424, 3) := by decide +kernel
theorem dX11_faultOfRequest_28 : decode cX11_faultOfRequest 28 = .ok (.invokevirtual 297, 3) := by decide +kernel
theorem dX11_faultOfRequest_31 : decode cX11_faultOfRequest 31 = .ok (.ifCond .ne 5, 3) := by decide +kernel
theorem dX11_faultOfRequest_34 : decode cX11_faultOfRequest 34 = .ok (.iconst 4, 1) := by decide +kernel
theorem dX11_faultOfRequest_35 : decode cX11_faultOfRequest 35 = .ok (.ireturn, 1) := by decide +kernel
theorem dX11_faultOfRequest_36 : decode cX11_faultOfRequest 36 = .ok (.aload_n 0, 1) := by decide +kernel
theorem dX11_faultOfRequest_37 : decode cX11_faultOfRequest 37 = .ok (.getfield 24, 3) := by decide +kernel
theorem dX11_faultOfRequest_40 : decode cX11_faultOfRequest 40 = .ok (.getfield 230, 3) := by decide +kernel
theorem dX11_faultOfRequest_43 : decode cX11_faultOfRequest 43 = .ok (.getfield 199, 3) := by decide +kernel
theorem dX11_faultOfRequest_46 : decode cX11_faultOfRequest 46 = .ok (.invokestatic 426, 3) := by decide +kernel
theorem dX11_faultOfRequest_49 : decode cX11_faultOfRequest 49 = .ok (.ifCond .eq 22, 3) := by decide +kernel
theorem dX11_faultOfRequest_52 : decode cX11_faultOfRequest 52 = .ok (.aload_n 0, 1) := by decide +kernel
theorem dX11_faultOfRequest_53 : decode cX11_faultOfRequest 53 = .ok (.getfield 24, 3) := by decide +kernel
theorem dX11_faultOfRequest_56 : decode cX11_faultOfRequest 56 = .ok (.getfield 429, 3) := by decide +kernel
theorem dX11_faultOfRequest_59 : decode cX11_faultOfRequest 59 = .ok (.getfield 199, 3) := by decide +kernel
theorem dX11_faultOfRequest_62 : decode cX11_faultOfRequest 62 = .ok (.ldc_w 432, 3) := by decide +kernel
theorem dX11_faultOfRequest_65 : decode cX11_faultOfRequest 65 = .ok (.invokevirtual 297, 3) := by decide +kernel
theorem dX11_faultOfRequest_68 : decode cX11_faultOfRequest 68 = .ok (.ifCond .ne 5, 3) := by decide +kernel
theorem dX11_faultOfRequest_71 : decode cX11_faultOfRequest 71 = .ok (.iconst 1, 1) := by decide +kernel
theorem dX11_faultOfRequest_72 : decode cX11_faultOfRequest 72 = .ok (.ireturn, 1) := by decide +kernel
theorem dX11_faultOfRequest_73 : decode cX11_faultOfRequest 73 = .ok (.iload_n 2, 1) := by decide +kernel
theorem dX11_faultOfRequest_74 : decode cX11_faultOfRequest 74 = .ok (.iconst (-1), 1) := by decide +kernel
theorem dX11_faultOfRequest_75 : decode cX11_faultOfRequest 75 = .ok (.if_icmp .eq 14, 3) := by decide +kernel
theorem dX11_faultOfRequest_78 : decode cX11_faultOfRequest 78 = .ok (.iload_n 2, 1) := by decide +kernel
theorem dX11_faultOfRequest_79 : decode cX11_faultOfRequest 79 = .ok (.aload_n 1, 1) := by decide +kernel
theorem dX11_faultOfRequest_80 : decode cX11_faultOfRequest 80 = .ok (.getfield 211, 3) := by decide +kernel
theorem dX11_faultOfRequest_83 : decode cX11_faultOfRequest 83 = .ok (.invokestatic 254, 3) := by decide +kernel
theorem dX11_faultOfRequest_86 : decode cX11_faultOfRequest 86 = .ok (.ifCond .ne 5, 3) := by decide +kernel
theorem dX11_faultOfRequest_89 : decode cX11_faultOfRequest 89 = .ok (.iconst 5, 1) := by decide +kernel
theorem dX11_faultOfRequest_90 : decode cX11_faultOfRequest 90 = .ok (.ireturn, 1) := by decide +kernel
theorem dX11_faultOfRequest_91 : decode cX11_faultOfRequest 91 = .ok (.aload_n 0, 1) := by decide +kernel
theorem dX11_faultOfRequest_92 : decode cX11_faultOfRequest 92 = .ok (.getfield 24, 3) := by decide +kernel
theorem dX11_faultOfRequest_95 : decode cX11_faultOfRequest 95 = .ok (.getfield 401, 3) := by decide +kernel
theorem dX11_faultOfRequest_98 : decode cX11_faultOfRequest 98 = .ok (.invokevirtual 285, 3) := by decide +kernel
theorem dX11_faultOfRequest_101 : decode cX11_faultOfRequest 101 = .ok (.ifCond .ne 12, 3) := by decide +kernel
theorem dX11_faultOfRequest_104 : decode cX11_faultOfRequest 104 = .ok (.aload_n 1, 1) := by decide +kernel
theorem dX11_faultOfRequest_105 : decode cX11_faultOfRequest 105 = .ok (.getfield 211, 3) := by decide +kernel
theorem dX11_faultOfRequest_108 : decode cX11_faultOfRequest 108 = .ok (.ifCond .ne 5, 3) := by decide +kernel
theorem dX11_faultOfRequest_111 : decode cX11_faultOfRequest 111 = .ok (.iconst 5, 1) := by decide +kernel
theorem dX11_faultOfRequest_112 : decode cX11_faultOfRequest 112 = .ok (.ireturn, 1) := by decide +kernel
theorem dX11_faultOfRequest_113 : decode cX11_faultOfRequest 113 = .ok (.aload_n 0, 1) := by decide +kernel
theorem dX11_faultOfRequest_114 : decode cX11_faultOfRequest 114 = .ok (.getfield 52, 3) := by decide +kernel
theorem dX11_faultOfRequest_117 : decode cX11_faultOfRequest 117 = .ok (.invokevirtual 123, 3) := by decide +kernel
theorem dX11_faultOfRequest_120 : decode cX11_faultOfRequest 120 = .ok (.sipush 200, 3) := by decide +kernel
theorem dX11_faultOfRequest_123 : decode cX11_faultOfRequest 123 = .ok (.if_icmp .lt 8, 3) := by decide +kernel
theorem dX11_faultOfRequest_126 : decode cX11_faultOfRequest 126 = .ok (.bipush 11, 2) := by decide +kernel
theorem dX11_faultOfRequest_128 : decode cX11_faultOfRequest 128 = .ok (.goto 4, 3) := by decide +kernel
theorem dX11_faultOfRequest_131 : decode cX11_faultOfRequest 131 = .ok (.iconst 0, 1) := by decide +kernel
theorem dX11_faultOfRequest_132 : decode cX11_faultOfRequest 132 = .ok (.ireturn, 1) := by decide +kernel
theorem dX11_isChallenge_0 : decode cX11_isChallenge 0 = .ok (.aload_n 0, 1) := by decide +kernel
theorem dX11_isChallenge_1 : decode cX11_isChallenge 1 = .ok (.invokevirtual 86, 3) := by decide +kernel
theorem dX11_isChallenge_4 : decode cX11_isChallenge 4 = .ok (.bipush 43, 2) := by decide +kernel
theorem dX11_isChallenge_6 : decode cX11_isChallenge 6 = .ok (.if_icmp .ne 32, 3) := by decide +kernel
theorem dX11_isChallenge_9 : decode cX11_isChallenge 9 = .ok (.aload_n 0, 1) := by decide +kernel
theorem dX11_isChallenge_10 : decode cX11_isChallenge 10 = .ok (.invokevirtual 434, 3) := by decide +kernel
theorem dX11_isChallenge_13 : decode cX11_isChallenge 13 = .ok (.ifCond .eq 25, 3) := by decide +kernel
theorem dX11_isChallenge_16 : decode cX11_isChallenge 16 = .ok (.aload_n 0, 1) := by decide +kernel
theorem dX11_isChallenge_17 : decode cX11_isChallenge 17 = .ok (.bipush 46, 2) := by decide +kernel
theorem dX11_isChallenge_19 : decode cX11_isChallenge 19 = .ok (.invokevirtual 393, 3) := by decide +kernel
theorem dX11_isChallenge_22 : decode cX11_isChallenge 22 = .ok (.ifCond .ne 16, 3) := by decide +kernel
theorem dX11_isChallenge_25 : decode cX11_isChallenge 25 = .ok (.aload_n 0, 1) := by decide +kernel
theorem dX11_isChallenge_26 : decode cX11_isChallenge 26 = .ok (.bipush 126, 2) := by decide +kernel
theorem dX11_isChallenge_28 : decode cX11_isChallenge 28 = .ok (.invokevirtual 393, 3) := by decide +kernel
theorem dX11_isChallenge_31 : decode cX11_isChallenge 31 = .ok (.ifCond .ne 7, 3) := by decide +kernel
theorem dX11_isChallenge_34 : decode cX11_isChallenge 34 = .ok (.iconst 1, 1) := by decide +kernel
theorem dX11_isChallenge_35 : decode cX11_isChallenge 35 = .ok (.goto 4, 3) := by decide +kernel
theorem dX11_isChallenge_38 : decode cX11_isChallenge 38 = .ok (.iconst 0, 1) := by decide +kernel
theorem dX11_isChallenge_39 : decode cX11_isChallenge 39 = .ok (.ireturn, 1) := by decide +kernel
theorem dX11_sendError_0 : decode cX11_sendError 0 = .ok (.aload_n 0, 1) := by decide +kernel
theorem dX11_sendError_1 : decode cX11_sendError 1 = .ok (.sipush 302, 3) := by decide +kernel
theorem dX11_sendError_4 : decode cX11_sendError 4 = .ok (.iload_n 1, 1) := by decide +kernel
theorem dX11_sendError_5 : decode cX11_sendError 5 = .ok (.invokevirtual 240, 3) := by decide +kernel
theorem dX11_sendError_8 : decode cX11_sendError 8 = .ok (.pop, 1) := by decide +kernel
theorem dX11_sendError_9 : decode cX11_sendError 9 = .ok (.aload_n 0, 1) := by decide +kernel
theorem dX11_sendError_10 : decode cX11_sendError 10 = .ok (.aload_n 2, 1) := by decide +kernel
theorem dX11_sendError_11 : decode cX11_sendError 11 = .ok (.invokevirtual 437, 3) := by decide +kernel
theorem dX11_sendError_14 : decode cX11_sendError 14 = .ok (.aload_n 0, 1) := by decide +kernel
theorem dX11_sendError_15 : decode cX11_sendError 15 = .ok (.getfield 18, 3) := by decide +kernel
theorem dX11_sendError_18 : decode cX11_sendError 18 = .ok (.ldc_w 441, 3) := by decide +kernel
theorem dX11_sendError_21 : decode cX11_sendError 21 = .ok (.invokevirtual 443, 3) := by decide +kernel
theorem dX11_sendError_24 : decode cX11_sendError 24 = .ok (.aload_n 0, 1) := by decide +kernel
theorem dX11_sendError_25 : decode cX11_sendError 25 = .ok (.getfield 18, 3) := by decide +kernel
theorem dX11_sendError_28 : decode cX11_sendError 28 = .ok (.iload_n 1, 1) := by decide +kernel
theorem dX11_sendError_29 : decode cX11_sendError 29 = .ok (.invokestatic 446, 3) := by decide +kernel
theorem dX11_sendError_32 : decode cX11_sendError 32 = .ok (.invokevirtual 443, 3) := by decide +kernel
theorem dX11_sendError_35 : decode cX11_sendError 35 = .ok (.aload_n 0, 1) := by decide +kernel
theorem dX11_sendError_36 : decode cX11_sendError 36 = .ok (.aload_n 3, 1) := by decide +kernel
theorem dX11_sendError_37 : decode cX11_sendError 37 = .ok (.invokevirtual 450, 3) := by decide +kernel
theorem dX11_sendError_40 : decode cX11_sendError 40 = .ok (.iconst (-1), 1) := by decide +kernel
theorem dX11_sendError_41 : decode cX11_sendError 41 = .ok (.ireturn, 1) := by decide +kernel
theorem dX11_sendCode_0 : decode cX11_sendCode 0 = .ok (.aload_n 0, 1) := by decide +kernel
theorem dX11_sendCode_1 : decode cX11_sendCode 1 = .ok (.sipush 302, 3) := by decide +kernel
theorem dX11_sendCode_4 : decode cX11_sendCode 4 = .ok (.iconst 0, 1) := by decide +kernel
theorem dX11_sendCode_5 : decode cX11_sendCode 5 = .ok (.invokevirtual 240, 3) := by decide +kernel
theorem dX11_sendCode_8 : decode cX11_sendCode 8 = .ok (.pop, 1) := by decide +kernel
theorem dX11_sendCode_9 : decode cX11_sendCode 9 = .ok (.aload_n 0, 1) := by decide +kernel
theorem dX11_sendCode_10 : decode cX11_sendCode 10 = .ok (.aload_n 1, 1) := by decide +kernel
theorem dX11_sendCode_11 : decode cX11_sendCode 11 = .ok (.getfield 357, 3) := by decide +kernel
theorem dX11_sendCode_14 : decode cX11_sendCode 14 = .ok (.getfield 268, 3) := by decide +kernel
theorem dX11_sendCode_17 : decode cX11_sendCode 17 = .ok (.invokevirtual 437, 3) := by decide +kernel
theorem dX11_sendCode_20 : decode cX11_sendCode 20 = .ok (.aload_n 0, 1) := by decide +kernel
theorem dX11_sendCode_21 : decode cX11_sendCode 21 = .ok (.getfield 18, 3) := by decide +kernel
theorem dX11_sendCode_24 : decode cX11_sendCode 24 = .ok (.ldc_w 453, 3) := by decide +kernel
theorem dX11_sendCode_27 : decode cX11_sendCode 27 = .ok (.invokevirtual 443, 3) := by decide +kernel
theorem dX11_sendCode_30 : decode cX11_sendCode 30 = .ok (.aload_n 0, 1) := by decide +kernel
theorem dX11_sendCode_31 : decode cX11_sendCode 31 = .ok (.getfield 31, 3) := by decide +kernel
theorem dX11_sendCode_34 : decode cX11_sendCode 34 = .ok (.iconst 0, 1) := by decide +kernel
theorem dX11_sendCode_35 : decode cX11_sendCode 35 = .ok (.aload_n 0, 1) := by decide +kernel
theorem dX11_sendCode_36 : decode cX11_sendCode 36 = .ok (.getfield 55, 3) := by decide +kernel
theorem dX11_sendCode_39 : decode cX11_sendCode 39 = .ok (.invokevirtual 123, 3) := by decide +kernel
theorem dX11_sendCode_42 : decode cX11_sendCode 42 = .ok (.aload_n 0, 1) := by decide +kernel
theorem dX11_sendCode_43 : decode cX11_sendCode 43 = .ok (.getfield 18, 3) := by decide +kernel
theorem dX11_sendCode_46 : decode cX11_sendCode 46 = .ok (.invokevirtual 455, 3) := by decide +kernel
theorem dX11_sendCode_49 : decode cX11_sendCode 49 = .ok (.aload_n 0, 1) := by decide +kernel
theorem dX11_sendCode_50 : decode cX11_sendCode 50 = .ok (.aload_n 1, 1) := by decide +kernel
theorem dX11_sendCode_51 : decode cX11_sendCode 51 = .ok (.getfield 357, 3) := by decide +kernel
theorem dX11_sendCode_54 : decode cX11_sendCode 54 = .ok (.getfield 271, 3) := by decide +kernel
theorem dX11_sendCode_57 : decode cX11_sendCode 57 = .ok (.invokevirtual 450, 3) := by decide +kernel
theorem dX11_sendCode_60 : decode cX11_sendCode 60 = .ok (.aload_n 0, 1) := by decide +kernel
theorem dX11_sendCode_61 : decode cX11_sendCode 61 = .ok (.getfield 55, 3) := by decide +kernel
theorem dX11_sendCode_64 : decode cX11_sendCode 64 = .ok (.aload_n 1, 1) := by decide +kernel
theorem dX11_sendCode_65 : decode cX11_sendCode 65 = .ok (.invokevirtual 129, 3) := by decide +kernel
theorem dX11_sendCode_68 : decode cX11_sendCode 68 = .ok (.pop, 1) := by decide +kernel
theorem dX11_sendCode_69 : decode cX11_sendCode 69 = .ok (.aload_n 0, 1) := by decide +kernel
theorem dX11_sendCode_70 : decode cX11_sendCode 70 = .ok (.getfield 55, 3) := by decide +kernel
theorem dX11_sendCode_73 : decode cX11_sendCode 73 = .ok (.invokevirtual 123, 3) := by decide +kernel
theorem dX11_sendCode_76 : decode cX11_sendCode 76 = .ok (.iconst 1, 1) := by decide +kernel
theorem dX11_sendCode_77 : decode cX11_sendCode 77 = .ok (.isub, 1) := by decide +kernel
theorem dX11_sendCode_78 : decode cX11_sendCode 78 = .ok (.ireturn, 1) := by decide +kernel
theorem dX11_startLocation_0 : decode cX11_startLocation 0 = .ok (.aload_n 0, 1) := by decide +kernel
theorem dX11_startLocation_1 : decode cX11_startLocation 1 = .ok (.getfield 18, 3) := by decide +kernel
theorem dX11_startLocation_4 : decode cX11_startLocation 4 = .ok (.aload_n 1, 1) := by decide +kernel
theorem dX11_startLocation_5 : decode cX11_startLocation 5 = .ok (.iconst 0, 1) := by decide +kernel
theorem dX11_startLocation_6 : decode cX11_startLocation 6 = .ok (.aload_n 1, 1) := by decide +kernel
theorem dX11_startLocation_7 : decode cX11_startLocation 7 = .ok (.invokevirtual 86, 3) := by decide +kernel
theorem dX11_startLocation_10 : decode cX11_startLocation 10 = .ok (.invokevirtual 97, 3) := by decide +kernel
theorem dX11_startLocation_13 : decode cX11_startLocation 13 = .ok (.aload_n 0, 1) := by decide +kernel
theorem dX11_startLocation_14 : decode cX11_startLocation 14 = .ok (.getfield 18, 3) := by decide +kernel
theorem dX11_startLocation_17 : decode cX11_startLocation 17 = .ok (.aload_n 1, 1) := by decide +kernel
theorem dX11_startLocation_18 : decode cX11_startLocation 18 = .ok (.bipush 63, 2) := by decide +kernel
theorem dX11_startLocation_20 : decode cX11_startLocation 20 = .ok (.invokevirtual 393, 3) := by decide +kernel
theorem dX11_startLocation_23 : decode cX11_startLocation 23 = .ok (.ifCond .eq 8, 3) := by decide +kernel
theorem dX11_startLocation_26 : decode cX11_startLocation 26 = .ok (.bipush 38, 2) := by decide +kernel
theorem dX11_startLocation_28 : decode cX11_startLocation 28 = .ok (.goto 5, 3) := by decide +kernel
theorem dX11_startLocation_31 : decode cX11_startLocation 31 = .ok (.bipush 63, 2) := by decide +kernel
theorem dX11_startLocation_33 : decode cX11_startLocation 33 = .ok (.invokevirtual 459, 3) := by decide +kernel
theorem dX11_startLocation_36 : decode cX11_startLocation 36 = .ok (.return_, 1) := by decide +kernel
theorem dX11_endLocation_0 : decode cX11_endLocation 0 = .ok (.aload_n 1, 1) := by decide +kernel
theorem dX11_endLocation_1 : decode cX11_endLocation 1 = .ok (.invokevirtual 86, 3) := by decide +kernel
theorem dX11_endLocation_4 : decode cX11_endLocation 4 = .ok (.ifCond .le 21, 3) := by decide +kernel
theorem dX11_endLocation_7 : decode cX11_endLocation 7 = .ok (.aload_n 0, 1) := by decide +kernel
theorem dX11_endLocation_8 : decode cX11_endLocation 8 = .ok (.getfield 18, 3) := by decide +kernel
theorem dX11_endLocation_11 : decode cX11_endLocation 11 = .ok (.ldc_w 461, 3) := by decide +kernel
theorem dX11_endLocation_14 : decode cX11_endLocation 14 = .ok (.invokevirtual 443, 3) := by decide +kernel
theorem dX11_endLocation_17 : decode cX11_endLocation 17 = .ok (.aload_n 0, 1) := by decide +kernel
theorem dX11_endLocation_18 : decode cX11_endLocation 18 = .ok (.getfield 18, 3) := by decide +kernel
theorem dX11_endLocation_21 : decode cX11_endLocation 21 = .ok (.aload_n 1, 1) := by decide +kernel
theorem dX11_endLocation_22 : decode cX11_endLocation 22 = .ok (.invokevirtual 463, 3) := by decide +kernel
theorem dX11_endLocation_25 : decode cX11_endLocation 25 = .ok (.return_, 1) := by decide +kernel
theorem dX11_redeem_0 : decode cX11_redeem 0 = .ok (.aload_n 0, 1) := by decide +kernel
theorem dX11_redeem_1 : decode cX11_redeem 1 = .ok (.getfield 24, 3) := by decide +kernel
theorem dX11_redeem_4 : decode cX11_redeem 4 = .ok (.getfield 466, 3) := by decide +kernel
theorem dX11_redeem_7 : decode cX11_redeem 7 = .ok (.invokevirtual 285, 3) := by decide +kernel
theorem dX11_redeem_10 : decode cX11_redeem 10 = .ok (.ifCond .eq 32, 3) := by decide +kernel
theorem dX11_redeem_13 : decode cX11_redeem 13 = .ok (.aload_n 0, 1) := by decide +kernel
theorem dX11_redeem_14 : decode cX11_redeem 14 = .ok (.getfield 24, 3) := by decide +kernel
theorem dX11_redeem_17 : decode cX11_redeem 17 = .ok (.getfield 204, 3) := by decide +kernel
theorem dX11_redeem_20 : decode cX11_redeem 20 = .ok (.invokevirtual 285, 3) := by decide +kernel
theorem dX11_redeem_23 : decode cX11_redeem 23 = .ok (.ifCond .eq 19, 3) := by decide +kernel
theorem dX11_redeem_26 : decode cX11_redeem 26 = .ok (.aload_n 0, 1) := by decide +kernel
theorem dX11_redeem_27 : decode cX11_redeem 27 = .ok (.getfield 24, 3) := by decide +kernel
theorem dX11_redeem_30 : decode cX11_redeem 30 = .ok (.getfield 468, 3) := by decide +kernel
theorem dX11_redeem_33 : decode cX11_redeem 33 = .ok (.getfield 199, 3) := by decide +kernel
theorem dX11_redeem_36 : decode cX11_redeem 36 = .ok (.invokestatic 471, 3) := by decide +kernel
theorem dX11_redeem_39 : decode cX11_redeem 39 = .ok (.ifCond .ne 12, 3) := by decide +kernel
theorem dX11_redeem_42 : decode cX11_redeem 42 = .ok (.aload_n 0, 1) := by decide +kernel
theorem dX11_redeem_43 : decode cX11_redeem 43 = .ok (.sipush 400, 3) := by decide +kernel
theorem dX11_redeem_46 : decode cX11_redeem 46 = .ok (.iconst 1, 1) := by decide +kernel
theorem dX11_redeem_47 : decode cX11_redeem 47 = .ok (.invokevirtual 288, 3) := by decide +kernel
theorem dX11_redeem_50 : decode cX11_redeem 50 = .ok (.ireturn, 1) := by decide +kernel
theorem dX11_redeem_51 : decode cX11_redeem 51 = .ok (.aload_n 0, 1) := by decide +kernel
theorem dX11_redeem_52 : decode cX11_redeem 52 = .ok (.aload_n 0, 1) := by decide +kernel
theorem dX11_redeem_53 : decode cX11_redeem 53 = .ok (.getfield 24, 3) := by decide +kernel
theorem dX11_redeem_56 : decode cX11_redeem 56 = .ok (.getfield 466, 3) := by decide +kernel
theorem dX11_redeem_59 : decode cX11_redeem 59 = .ok (.getfield 199, 3) := by decide +kernel
theorem dX11_redeem_62 : decode cX11_redeem 62 = .ok (.invokevirtual 474, 3) := by decide +kernel
theorem dX11_redeem_65 : decode cX11_redeem 65 = .ok (.astore_n 2, 1) := by decide +kernel
theorem dX11_redeem_66 : decode cX11_redeem 66 = .ok (.aload_n 2, 1) := by decide +kernel
theorem dX11_redeem_67 : decode cX11_redeem 67 = .ok (.ifnull 20, 3) := by decide +kernel
theorem dX11_redeem_70 : decode cX11_redeem 70 = .ok (.aload_n 2, 1) := by decide +kernel
theorem dX11_redeem_71 : decode cX11_redeem 71 = .ok (.getfield 357, 3) := by decide +kernel
theorem dX11_redeem_74 : decode cX11_redeem 74 = .ok (.getfield 361, 3) := by decide +kernel
theorem dX11_redeem_77 : decode cX11_redeem 77 = .ok (.getfield 328, 3) := by decide +kernel
theorem dX11_redeem_80 : decode cX11_redeem 80 = .ok (.aload_n 1, 1) := by decide +kernel
theorem dX11_redeem_81 : decode cX11_redeem 81 = .ok (.getfield 328, 3) := by decide +kernel
theorem dX11_redeem_84 : decode cX11_redeem 84 = .ok (.if_icmp .eq 13, 3) := by decide +kernel
theorem dX11_redeem_87 : decode cX11_redeem 87 = .ok (.aload_n 0, 1) := by decide +kernel
theorem dX11_redeem_88 : decode cX11_redeem 88 = .ok (.sipush 400, 3) := by decide +kernel
theorem dX11_redeem_91 : decode cX11_redeem 91 = .ok (.bipush 7, 2) := by decide +kernel
theorem dX11_redeem_93 : decode cX11_redeem 93 = .ok (.invokevirtual 288, 3) := by decide +kernel
theorem dX11_redeem_96 : decode cX11_redeem 96 = .ok (.ireturn, 1) := by decide +kernel
theorem dX11_redeem_97 : decode cX11_redeem 97 = .ok (.aload_n 2, 1) := by decide +kernel
theorem dX11_redeem_98 : decode cX11_redeem 98 = .ok (.getfield 366, 3) := by decide +kernel
theorem dX11_redeem_101 : decode cX11_redeem 101 = .ok (.ifnull 21, 3) := by decide +kernel
theorem dX11_redeem_104 : decode cX11_redeem 104 = .ok (.aload_n 2, 1) := by decide +kernel
theorem dX11_redeem_105 : decode cX11_redeem 105 = .ok (.getfield 366, 3) := by decide +kernel
theorem dX11_redeem_108 : decode cX11_redeem 108 = .ok (.iconst 1, 1) := by decide +kernel
theorem dX11_redeem_109 : decode cX11_redeem 109 = .ok (.putfield 331, 3) := by decide +kernel
theorem dX11_redeem_112 : decode cX11_redeem 112 = .ok (.aload_n 0, 1) := by decide +kernel
theorem dX11_redeem_113 : decode cX11_redeem 113 = .ok (.sipush 400, 3) := by decide +kernel
theorem dX11_redeem_116 : decode cX11_redeem 116 = .ok (.bipush 7, 2) := by decide +kernel
theorem dX11_redeem_118 : decode cX11_redeem 118 = .ok (.invokevirtual 288, 3) := by decide +kernel
theorem dX11_redeem_121 : decode cX11_redeem 121 = .ok (.ireturn, 1) := by decide +kernel
theorem dX11_redeem_122 : decode cX11_redeem 122 = .ok (.aload_n 0, 1) := by decide +kernel
theorem dX11_redeem_123 : decode cX11_redeem 123 = .ok (.getfield 77, 3) := by decide +kernel
theorem dX11_redeem_126 : decode cX11_redeem 126 = .ok (.aload_n 2, 1) := by decide +kernel
theorem dX11_redeem_127 : decode cX11_redeem 127 = .ok (.getfield 478, 3) := by decide +kernel
theorem dX11_redeem_130 : decode cX11_redeem 130 = .ok (.if_icmp .ge 56, 3) := by decide +kernel
theorem dX11_redeem_133 : decode cX11_redeem 133 = .ok (.aload_n 0, 1) := by decide +kernel
theorem dX11_redeem_134 : decode cX11_redeem 134 = .ok (.getfield 24, 3) := by decide +kernel
theorem dX11_redeem_137 : decode cX11_redeem 137 = .ok (.getfield 204, 3) := by decide +kernel
theorem dX11_redeem_140 : decode cX11_redeem 140 = .ok (.getfield 199, 3) := by decide +kernel
theorem dX11_redeem_143 : decode cX11_redeem 143 = .ok (.aload_n 2, 1) := by decide +kernel
theorem dX11_redeem_144 : decode cX11_redeem 144 = .ok (.getfield 357, 3) := by decide +kernel
theorem dX11_redeem_147 : decode cX11_redeem 147 = .ok (.getfield 268, 3) := by decide +kernel
theorem dX11_redeem_150 : decode cX11_redeem 150 = .ok (.invokevirtual 411, 3) := by decide +kernel
theorem dX11_redeem_153 : decode cX11_redeem 153 = .ok (.ifCond .eq 33, 3) := by decide +kernel
theorem dX11_redeem_156 : decode cX11_redeem 156 = .ok (.aload_n 0, 1) := by decide +kernel
theorem dX11_redeem_157 : decode cX11_redeem 157 = .ok (.getfield 38, 3) := by decide +kernel
theorem dX11_redeem_160 : decode cX11_redeem 160 = .ok (.aload_n 0, 1) := by decide +kernel
theorem dX11_redeem_161 : decode cX11_redeem 161 = .ok (.getfield 24, 3) := by decide +kernel
theorem dX11_redeem_164 : decode cX11_redeem 164 = .ok (.getfield 468, 3) := by decide +kernel
theorem dX11_redeem_167 : decode cX11_redeem 167 = .ok (.getfield 199, 3) := by decide +kernel
theorem dX11_redeem_170 : decode cX11_redeem 170 = .ok (.invokevirtual 481, 3) := by decide +kernel
theorem dX11_redeem_173 : decode cX11_redeem 173 = .ok (.aload_n 2, 1) := by decide +kernel
theorem dX11_redeem_174 : decode cX11_redeem 174 = .ok (.getfield 357, 3) := by decide +kernel
theorem dX11_redeem_177 : decode cX11_redeem 177 = .ok (.getfield 484, 3) := by decide +kernel
theorem dX11_redeem_180 : decode cX11_redeem 180 = .ok (.invokevirtual 411, 3) := by decide +kernel
theorem dX11_redeem_183 : decode cX11_redeem 183 = .ok (.ifCond .ne 13, 3) := by decide +kernel
theorem dX11_redeem_186 : decode cX11_redeem 186 = .ok (.aload_n 0, 1) := by decide +kernel
theorem dX11_redeem_187 : decode cX11_redeem 187 = .ok (.sipush 400, 3) := by decide +kernel
theorem dX11_redeem_190 : decode cX11_redeem 190 = .ok (.bipush 7, 2) := by decide +kernel
theorem dX11_redeem_192 : decode cX11_redeem 192 = .ok (.invokevirtual 288, 3) := by decide +kernel
theorem dX11_redeem_195 : decode cX11_redeem 195 = .ok (.ireturn, 1) := by decide +kernel
theorem dX11_redeem_196 : decode cX11_redeem 196 = .ok (.aload_n 0, 1) := by decide +kernel
theorem dX11_redeem_197 : decode cX11_redeem 197 = .ok (.aload_n 1, 1) := by decide +kernel
theorem dX11_redeem_198 : decode cX11_redeem 198 = .ok (.getfield 487, 3) := by decide +kernel
theorem dX11_redeem_201 : decode cX11_redeem 201 = .ok (.invokevirtual 490, 3) := by decide +kernel
theorem dX11_redeem_204 : decode cX11_redeem 204 = .ok (.ifCond .ne 13, 3) := by decide +kernel
theorem dX11_redeem_207 : decode cX11_redeem 207 = .ok (.aload_n 0, 1) := by decide +kernel
theorem dX11_redeem_208 : decode cX11_redeem 208 = .ok (.sipush 503, 3) := by decide +kernel
theorem dX11_redeem_211 : decode cX11_redeem 211 = .ok (.bipush 11, 2) := by decide +kernel
theorem dX11_redeem_213 : decode cX11_redeem 213 = .ok (.invokevirtual 288, 3) := by decide +kernel
theorem dX11_redeem_216 : decode cX11_redeem 216 = .ok (.ireturn, 1) := by decide +kernel
theorem dX11_redeem_217 : decode cX11_redeem 217 = .ok (.new 324, 3) := by decide +kernel
theorem dX11_redeem_220 : decode cX11_redeem 220 = .ok (.dup, 1) := by decide +kernel
theorem dX11_redeem_221 : decode cX11_redeem 221 = .ok (.aload_n 0, 1) := by decide +kernel
theorem dX11_redeem_222 : decode cX11_redeem 222 = .ok (.getfield 58, 3) := by decide +kernel
theorem dX11_redeem_225 : decode cX11_redeem 225 = .ok (.invokevirtual 123, 3) := by decide +kernel
theorem dX11_redeem_228 : decode cX11_redeem 228 = .ok (.aload_n 1, 1) := by decide +kernel
theorem dX11_redeem_229 : decode cX11_redeem 229 = .ok (.getfield 328, 3) := by decide +kernel
theorem dX11_redeem_232 : decode cX11_redeem 232 = .ok (.aload_n 2, 1) := by decide +kernel
theorem dX11_redeem_233 : decode cX11_redeem 233 = .ok (.getfield 364, 3) := by decide +kernel
theorem dX11_redeem_236 : decode cX11_redeem 236 = .ok (.aload_n 2, 1) := by decide +kernel
theorem dX11_redeem_237 : decode cX11_redeem 237 = .ok (.getfield 365, 3) := by decide +kernel
theorem dX11_redeem_240 : decode cX11_redeem 240 = .ok (.invokespecial 494, 3) := by decide +kernel
theorem dX11_redeem_243 : decode cX11_redeem 243 = .ok (.astore_n 3, 1) := by decide +kernel
theorem dX11_redeem_244 : decode cX11_redeem 244 = .ok (.aload_n 0, 1) := by decide +kernel
theorem dX11_redeem_245 : decode cX11_redeem 245 = .ok (.getfield 58, 3) := by decide +kernel
theorem dX11_redeem_248 : decode cX11_redeem 248 = .ok (.aload_n 3, 1) := by decide +kernel
theorem dX11_redeem_249 : decode cX11_redeem 249 = .ok (.invokevirtual 129, 3) := by decide +kernel
theorem dX11_redeem_252 : decode cX11_redeem 252 = .ok (.pop, 1) := by decide +kernel
theorem dX11_redeem_253 : decode cX11_redeem 253 = .ok (.aload_n 2, 1) := by decide +kernel
theorem dX11_redeem_254 : decode cX11_redeem 254 = .ok (.aload_n 3, 1) := by decide +kernel
theorem dX11_redeem_255 : decode cX11_redeem 255 = .ok (.putfield 366, 3) := by decide +kernel
theorem dX11_redeem_258 : decode cX11_redeem 258 = .ok (.aload_n 0, 1) := by decide +kernel
theorem dX11_redeem_259 : decode cX11_redeem 259 = .ok (.aload_n 3, 1) := by decide +kernel
theorem dX11_redeem_260 : decode cX11_redeem 260 = .ok (.aload_n 3, 1) := by decide +kernel
theorem dX11_redeem_261 : decode cX11_redeem 261 = .ok (.getfield 372, 3) := by decide +kernel
theorem dX11_redeem_264 : decode cX11_redeem 264 = .ok (.aload_n 1, 1) := by decide +kernel
theorem dX11_redeem_265 : decode cX11_redeem 265 = .ok (.getfield 487, 3) := by decide +kernel
theorem dX11_redeem_268 : decode cX11_redeem 268 = .ok (.invokevirtual 497, 3) := by decide +kernel
theorem dX11_redeem_271 : decode cX11_redeem 271 = .ok (.ireturn, 1) := by decide +kernel
theorem dX11_turn_0 : decode cX11_turn 0 = .ok (.aload_n 0, 1) := by decide +kernel
theorem dX11_turn_1 : decode cX11_turn 1 = .ok (.getfield 24, 3) := by decide +kernel
theorem dX11_turn_4 : decode cX11_turn 4 = .ok (.getfield 501, 3) := by decide +kernel
theorem dX11_turn_7 : decode cX11_turn 7 = .ok (.invokevirtual 285, 3) := by decide +kernel
theorem dX11_turn_10 : decode cX11_turn 10 = .ok (.ifCond .ne 12, 3) := by decide +kernel
theorem dX11_turn_13 : decode cX11_turn 13 = .ok (.aload_n 0, 1) := by decide +kernel
theorem dX11_turn_14 : decode cX11_turn 14 = .ok (.sipush 400, 3) := by decide +kernel
theorem dX11_turn_17 : decode cX11_turn 17 = .ok (.iconst 1, 1) := by decide +kernel
theorem dX11_turn_18 : decode cX11_turn 18 = .ok (.invokevirtual 288, 3) := by decide +kernel
theorem dX11_turn_21 : decode cX11_turn 21 = .ok (.ireturn, 1) := by decide +kernel
theorem dX11_turn_22 : decode cX11_turn 22 = .ok (.aload_n 0, 1) := by decide +kernel
theorem dX11_turn_23 : decode cX11_turn 23 = .ok (.aload_n 0, 1) := by decide +kernel
theorem dX11_turn_24 : decode cX11_turn 24 = .ok (.getfield 24, 3) := by decide +kernel
theorem dX11_turn_27 : decode cX11_turn 27 = .ok (.getfield 501, 3) := by decide +kernel
theorem dX11_turn_30 : decode cX11_turn 30 = .ok (.getfield 199, 3) := by decide +kernel
theorem dX11_turn_33 : decode cX11_turn 33 = .ok (.invokevirtual 313, 3) := by decide +kernel
theorem dX11_turn_36 : decode cX11_turn 36 = .ok (.astore_n 2, 1) := by decide +kernel
theorem dX11_turn_37 : decode cX11_turn 37 = .ok (.aload_n 2, 1) := by decide +kernel
theorem dX11_turn_38 : decode cX11_turn 38 = .ok (.ifnull 27, 3) := by decide +kernel
theorem dX11_turn_41 : decode cX11_turn 41 = .ok (.aload_n 2, 1) := by decide +kernel
theorem dX11_turn_42 : decode cX11_turn 42 = .ok (.getfield 317, 3) := by decide +kernel
theorem dX11_turn_45 : decode cX11_turn 45 = .ok (.getfield 323, 3) := by decide +kernel
theorem dX11_turn_48 : decode cX11_turn 48 = .ok (.aload_n 1, 1) := by decide +kernel
theorem dX11_turn_49 : decode cX11_turn 49 = .ok (.getfield 328, 3) := by decide +kernel
theorem dX11_turn_52 : decode cX11_turn 52 = .ok (.if_icmp .ne 13, 3) := by decide +kernel
theorem dX11_turn_55 : decode cX11_turn 55 = .ok (.aload_n 2, 1) := by decide +kernel
theorem dX11_turn_56 : decode cX11_turn 56 = .ok (.getfield 317, 3) := by decide +kernel
theorem dX11_turn_59 : decode cX11_turn 59 = .ok (.getfield 331, 3) := by decide +kernel
theorem dX11_turn_62 : decode cX11_turn 62 = .ok (.ifCond .eq 13, 3) := by decide +kernel
theorem dX11_turn_65 : decode cX11_turn 65 = .ok (.aload_n 0, 1) := by decide +kernel
theorem dX11_turn_66 : decode cX11_turn 66 = .ok (.sipush 400, 3) := by decide +kernel
theorem dX11_turn_69 : decode cX11_turn 69 = .ok (.bipush 7, 2) := by decide +kernel
theorem dX11_turn_71 : decode cX11_turn 71 = .ok (.invokevirtual 288, 3) := by decide +kernel
theorem dX11_turn_74 : decode cX11_turn 74 = .ok (.ireturn, 1) := by decide +kernel
theorem dX11_turn_75 : decode cX11_turn 75 = .ok (.aload_n 2, 1) := by decide +kernel
theorem dX11_turn_76 : decode cX11_turn 76 = .ok (.getfield 337, 3) := by decide +kernel
theorem dX11_turn_79 : decode cX11_turn 79 = .ok (.ifCond .eq 21, 3) := by decide +kernel
theorem dX11_turn_82 : decode cX11_turn 82 = .ok (.aload_n 2, 1) := by decide +kernel
theorem dX11_turn_83 : decode cX11_turn 83 = .ok (.getfield 317, 3) := by decide +kernel
theorem dX11_turn_86 : decode cX11_turn 86 = .ok (.iconst 1, 1) := by decide +kernel
theorem dX11_turn_87 : decode cX11_turn 87 = .ok (.putfield 331, 3) := by decide +kernel
theorem dX11_turn_90 : decode cX11_turn 90 = .ok (.aload_n 0, 1) := by decide +kernel
theorem dX11_turn_91 : decode cX11_turn 91 = .ok (.sipush 400, 3) := by decide +kernel
theorem dX11_turn_94 : decode cX11_turn 94 = .ok (.bipush 7, 2) := by decide +kernel
theorem dX11_turn_96 : decode cX11_turn 96 = .ok (.invokevirtual 288, 3) := by decide +kernel
theorem dX11_turn_99 : decode cX11_turn 99 = .ok (.ireturn, 1) := by decide +kernel
theorem dX11_turn_100 : decode cX11_turn 100 = .ok (.aload_n 0, 1) := by decide +kernel
theorem dX11_turn_101 : decode cX11_turn 101 = .ok (.getfield 77, 3) := by decide +kernel
theorem dX11_turn_104 : decode cX11_turn 104 = .ok (.aload_n 2, 1) := by decide +kernel
theorem dX11_turn_105 : decode cX11_turn 105 = .ok (.getfield 504, 3) := by decide +kernel
theorem dX11_turn_108 : decode cX11_turn 108 = .ok (.if_icmp .lt 13, 3) := by decide +kernel
theorem dX11_turn_111 : decode cX11_turn 111 = .ok (.aload_n 0, 1) := by decide +kernel
theorem dX11_turn_112 : decode cX11_turn 112 = .ok (.sipush 400, 3) := by decide +kernel
theorem dX11_turn_115 : decode cX11_turn 115 = .ok (.bipush 7, 2) := by decide +kernel
theorem dX11_turn_117 : decode cX11_turn 117 = .ok (.invokevirtual 288, 3) := by decide +kernel
theorem dX11_turn_120 : decode cX11_turn 120 = .ok (.ireturn, 1) := by decide +kernel
theorem dX11_turn_121 : decode cX11_turn 121 = .ok (.aload_n 0, 1) := by decide +kernel
theorem dX11_turn_122 : decode cX11_turn 122 = .ok (.aload_n 2, 1) := by decide +kernel
theorem dX11_turn_123 : decode cX11_turn 123 = .ok (.getfield 317, 3) := by decide +kernel
theorem dX11_turn_126 : decode cX11_turn 126 = .ok (.getfield 372, 3) := by decide +kernel
theorem dX11_turn_129 : decode cX11_turn 129 = .ok (.invokevirtual 214, 3) := by decide +kernel
theorem dX11_turn_132 : decode cX11_turn 132 = .ok (.istore_n 3, 1) := by decide +kernel
theorem dX11_turn_133 : decode cX11_turn 133 = .ok (.iload_n 3, 1) := by decide +kernel
theorem dX11_turn_134 : decode cX11_turn 134 = .ok (.iconst (-1), 1) := by decide +kernel
theorem dX11_turn_135 : decode cX11_turn 135 = .ok (.if_icmp .eq 17, 3) := by decide +kernel
theorem dX11_turn_138 : decode cX11_turn 138 = .ok (.iload_n 3, 1) := by decide +kernel
theorem dX11_turn_139 : decode cX11_turn 139 = .ok (.aload_n 2, 1) := by decide +kernel
theorem dX11_turn_140 : decode cX11_turn 140 = .ok (.getfield 317, 3) := by decide +kernel
theorem dX11_turn_143 : decode cX11_turn 143 = .ok (.getfield 372, 3) := by decide +kernel
theorem dX11_turn_146 : decode cX11_turn 146 = .ok (.invokestatic 254, 3) := by decide +kernel
theorem dX11_turn_149 : decode cX11_turn 149 = .ok (.ifCond .ne 12, 3) := by decide +kernel
theorem dX11_turn_152 : decode cX11_turn 152 = .ok (.aload_n 0, 1) := by decide +kernel
theorem dX11_turn_153 : decode cX11_turn 153 = .ok (.sipush 400, 3) := by decide +kernel
theorem dX11_turn_156 : decode cX11_turn 156 = .ok (.iconst 5, 1) := by decide +kernel
theorem dX11_turn_157 : decode cX11_turn 157 = .ok (.invokevirtual 288, 3) := by decide +kernel
theorem dX11_turn_160 : decode cX11_turn 160 = .ok (.ireturn, 1) := by decide +kernel
theorem dX11_turn_161 : decode cX11_turn 161 = .ok (.aload_n 0, 1) := by decide +kernel
theorem dX11_turn_162 : decode cX11_turn 162 = .ok (.iconst 1, 1) := by decide +kernel
theorem dX11_turn_163 : decode cX11_turn 163 = .ok (.invokevirtual 490, 3) := by decide +kernel
theorem dX11_turn_166 : decode cX11_turn 166 = .ok (.ifCond .ne 13, 3) := by decide +kernel
theorem dX11_turn_169 : decode cX11_turn 169 = .ok (.aload_n 0, 1) := by decide +kernel
theorem dX11_turn_170 : decode cX11_turn 170 = .ok (.sipush 503, 3) := by decide +kernel
theorem dX11_turn_173 : decode cX11_turn 173 = .ok (.bipush 11, 2) := by decide +kernel
theorem dX11_turn_175 : decode cX11_turn 175 = .ok (.invokevirtual 288, 3) := by decide +kernel
theorem dX11_turn_178 : decode cX11_turn 178 = .ok (.ireturn, 1) := by decide +kernel
theorem dX11_turn_179 : decode cX11_turn 179 = .ok (.aload_n 2, 1) := by decide +kernel
theorem dX11_turn_180 : decode cX11_turn 180 = .ok (.iconst 1, 1) := by decide +kernel
theorem dX11_turn_181 : decode cX11_turn 181 = .ok (.putfield 337, 3) := by decide +kernel
theorem dX11_turn_184 : decode cX11_turn 184 = .ok (.aload_n 2, 1) := by decide +kernel
theorem dX11_turn_185 : decode cX11_turn 185 = .ok (.getfield 317, 3) := by decide +kernel
theorem dX11_turn_188 : decode cX11_turn 188 = .ok (.dup, 1) := by decide +kernel
theorem dX11_turn_189 : decode cX11_turn 189 = .ok (.getfield 376, 3) := by decide +kernel
theorem dX11_turn_192 : decode cX11_turn 192 = .ok (.iconst 1, 1) := by decide +kernel
theorem dX11_turn_193 : decode cX11_turn 193 = .ok (.iadd, 1) := by decide +kernel
theorem dX11_turn_194 : decode cX11_turn 194 = .ok (.putfield 376, 3) := by decide +kernel
theorem dX11_turn_197 : decode cX11_turn 197 = .ok (.aload_n 0, 1) := by decide +kernel
theorem dX11_turn_198 : decode cX11_turn 198 = .ok (.aload_n 2, 1) := by decide +kernel
theorem dX11_turn_199 : decode cX11_turn 199 = .ok (.getfield 317, 3) := by decide +kernel
theorem dX11_turn_202 : decode cX11_turn 202 = .ok (.iload_n 3, 1) := by decide +kernel
theorem dX11_turn_203 : decode cX11_turn 203 = .ok (.iconst 1, 1) := by decide +kernel
theorem dX11_turn_204 : decode cX11_turn 204 = .ok (.invokevirtual 497, 3) := by decide +kernel
theorem dX11_turn_207 : decode cX11_turn 207 = .ok (.ireturn, 1) := by decide +kernel
theorem dX11_isVerifier_0 : decode cX11_isVerifier 0 = .ok (.aload_n 0, 1) := by decide +kernel
theorem dX11_isVerifier_1 : decode cX11_isVerifier 1 = .ok (.invokevirtual 86, 3) := by decide +kernel
theorem dX11_isVerifier_4 : decode cX11_isVerifier 4 = .ok (.bipush 43, 2) := by decide +kernel
theorem dX11_isVerifier_6 : decode cX11_isVerifier 6 = .ok (.if_icmp .lt 24, 3) := by decide +kernel
theorem dX11_isVerifier_9 : decode cX11_isVerifier 9 = .ok (.aload_n 0, 1) := by decide +kernel
theorem dX11_isVerifier_10 : decode cX11_isVerifier 10 = .ok (.invokevirtual 86, 3) := by decide +kernel
theorem dX11_isVerifier_13 : decode cX11_isVerifier 13 = .ok (.sipush 128, 3) := by decide +kernel
theorem dX11_isVerifier_16 : decode cX11_isVerifier 16 = .ok (.if_icmp .gt 14, 3) := by decide +kernel
theorem dX11_isVerifier_19 : decode cX11_isVerifier 19 = .ok (.aload_n 0, 1) := by decide +kernel
theorem dX11_isVerifier_20 : decode cX11_isVerifier 20 = .ok (.invokevirtual 434, 3) := by decide +kernel
theorem dX11_isVerifier_23 : decode cX11_isVerifier 23 = .ok (.ifCond .eq 7, 3) := by decide +kernel
theorem dX11_isVerifier_26 : decode cX11_isVerifier 26 = .ok (.iconst 1, 1) := by decide +kernel
theorem dX11_isVerifier_27 : decode cX11_isVerifier 27 = .ok (.goto 4, 3) := by decide +kernel
theorem dX11_isVerifier_30 : decode cX11_isVerifier 30 = .ok (.iconst 0, 1) := by decide +kernel
theorem dX11_isVerifier_31 : decode cX11_isVerifier 31 = .ok (.ireturn, 1) := by decide +kernel
theorem dX11_canGiveTokens_0 : decode cX11_canGiveTokens 0 = .ok (.aload_n 0, 1) := by decide +kernel
theorem dX11_canGiveTokens_1 : decode cX11_canGiveTokens 1 = .ok (.getfield 61, 3) := by decide +kernel
theorem dX11_canGiveTokens_4 : decode cX11_canGiveTokens 4 = .ok (.invokevirtual 123, 3) := by decide +kernel
theorem dX11_canGiveTokens_7 : decode cX11_canGiveTokens 7 = .ok (.sipush 300, 3) := by decide +kernel
theorem dX11_canGiveTokens_10 : decode cX11_canGiveTokens 10 = .ok (.if_icmp .ge 20, 3) := by decide +kernel
theorem dX11_canGiveTokens_13 : decode cX11_canGiveTokens 13 = .ok (.iload_n 1, 1) := by decide +kernel
theorem dX11_canGiveTokens_14 : decode cX11_canGiveTokens 14 = .ok (.ifCond .eq 18, 3) := by decide +kernel
theorem dX11_canGiveTokens_17 : decode cX11_canGiveTokens 17 = .ok (.aload_n 0, 1) := by decide +kernel
theorem dX11_canGiveTokens_18 : decode cX11_canGiveTokens 18 = .ok (.getfield 64, 3) := by decide +kernel
theorem dX11_canGiveTokens_21 : decode cX11_canGiveTokens 21 = .ok (.invokevirtual 123, 3) := by decide +kernel
theorem dX11_canGiveTokens_24 : decode cX11_canGiveTokens 24 = .ok (.sipush 300, 3) := by decide +kernel
theorem dX11_canGiveTokens_27 : decode cX11_canGiveTokens 27 = .ok (.if_icmp .lt 5, 3) := by decide +kernel
theorem dX11_canGiveTokens_30 : decode cX11_canGiveTokens 30 = .ok (.iconst 0, 1) := by decide +kernel
theorem dX11_canGiveTokens_31 : decode cX11_canGiveTokens 31 = .ok (.ireturn, 1) := by decide +kernel
theorem dX11_canGiveTokens_32 : decode cX11_canGiveTokens 32 = .ok (.aload_n 0, 1) := by decide +kernel
theorem dX11_canGiveTokens_33 : decode cX11_canGiveTokens 33 = .ok (.getfield 31, 3) := by decide +kernel
theorem dX11_canGiveTokens_36 : decode cX11_canGiveTokens 36 = .ok (.iload_n 1, 1) := by decide +kernel
theorem dX11_canGiveTokens_37 : decode cX11_canGiveTokens 37 = .ok (.ifCond .eq 7, 3) := by decide +kernel
theorem dX11_canGiveTokens_40 : decode cX11_canGiveTokens 40 = .ok (.iconst 2, 1) := by decide +kernel
theorem dX11_canGiveTokens_41 : decode cX11_canGiveTokens 41 = .ok (.goto 4, 3) := by decide +kernel
theorem dX11_canGiveTokens_44 : decode cX11_canGiveTokens 44 = .ok (.iconst 1, 1) := by decide +kernel
theorem dX11_canGiveTokens_45 : decode cX11_canGiveTokens 45 = .ok (.invokevirtual 260, 3) := by decide +kernel
theorem dX11_canGiveTokens_48 : decode cX11_canGiveTokens 48 = .ok (.ireturn, 1) := by decide +kernel
theorem dX11_giveTokens_0 : decode cX11_giveTokens 0 = .ok (.aload_n 0, 1) := by decide +kernel
theorem dX11_giveTokens_1 : decode cX11_giveTokens 1 = .ok (.sipush 200, 3) := by decide +kernel
theorem dX11_giveTokens_4 : decode cX11_giveTokens 4 = .ok (.iconst 0, 1) := by decide +kernel
theorem dX11_giveTokens_5 : decode cX11_giveTokens 5 = .ok (.invokevirtual 240, 3) := by decide +kernel
theorem dX11_giveTokens_8 : decode cX11_giveTokens 8 = .ok (.pop, 1) := by decide +kernel
theorem dX11_giveTokens_9 : decode cX11_giveTokens 9 = .ok (.aload_n 0, 1) := by decide +kernel
theorem dX11_giveTokens_10 : decode cX11_giveTokens 10 = .ok (.getfield 18, 3) := by decide +kernel
theorem dX11_giveTokens_13 : decode cX11_giveTokens 13 = .ok (.ldc_w 505, 3) := by decide +kernel
theorem dX11_giveTokens_16 : decode cX11_giveTokens 16 = .ok (.invokevirtual 443, 3) := by decide +kernel
theorem dX11_giveTokens_19 : decode cX11_giveTokens 19 = .ok (.aload_n 0, 1) := by decide +kernel
theorem dX11_giveTokens_20 : decode cX11_giveTokens 20 = .ok (.getfield 31, 3) := by decide +kernel
theorem dX11_giveTokens_23 : decode cX11_giveTokens 23 = .ok (.iconst 1, 1) := by decide +kernel
theorem dX11_giveTokens_24 : decode cX11_giveTokens 24 = .ok (.aload_n 0, 1) := by decide +kernel
theorem dX11_giveTokens_25 : decode cX11_giveTokens 25 = .ok (.getfield 61, 3) := by decide +kernel
theorem dX11_giveTokens_28 : decode cX11_giveTokens 28 = .ok (.invokevirtual 123, 3) := by decide +kernel
theorem dX11_giveTokens_31 : decode cX11_giveTokens 31 = .ok (.aload_n 0, 1) := by decide +kernel
theorem dX11_giveTokens_32 : decode cX11_giveTokens 32 = .ok (.getfield 18, 3) := by decide +kernel
theorem dX11_giveTokens_35 : decode cX11_giveTokens 35 = .ok (.invokevirtual 455, 3) := by decide +kernel
theorem dX11_giveTokens_38 : decode cX11_giveTokens 38 = .ok (.aload_n 0, 1) := by decide +kernel
theorem dX11_giveTokens_39 : decode cX11_giveTokens 39 = .ok (.getfield 61, 3) := by decide +kernel
theorem dX11_giveTokens_42 : decode cX11_giveTokens 42 = .ok (.new 318, 3) := by decide +kernel
theorem dX11_giveTokens_45 : decode cX11_giveTokens 45 = .ok (.dup, 1) := by decide +kernel
theorem dX11_giveTokens_46 : decode cX11_giveTokens 46 = .ok (.aload_n 1, 1) := by decide +kernel
theorem dX11_giveTokens_47 : decode cX11_giveTokens 47 = .ok (.iload_n 2, 1) := by decide +kernel
theorem dX11_giveTokens_48 : decode cX11_giveTokens 48 = .ok (.aload_n 0, 1) := by decide +kernel
theorem dX11_giveTokens_49 : decode cX11_giveTokens 49 = .ok (.getfield 77, 3) := by decide +kernel
theorem dX11_giveTokens_52 : decode cX11_giveTokens 52 = .ok (.aload_n 0, 1) := by decide +kernel
theorem dX11_giveTokens_53 : decode cX11_giveTokens 53 = .ok (.getfield 71, 3) := by decide +kernel
theorem dX11_giveTokens_56 : decode cX11_giveTokens 56 = .ok (.iadd, 1) := by decide +kernel
theorem dX11_giveTokens_57 : decode cX11_giveTokens 57 = .ok (.invokespecial 507, 3) := by decide +kernel
theorem dX11_giveTokens_60 : decode cX11_giveTokens 60 = .ok (.invokevirtual 129, 3) := by decide +kernel
theorem dX11_giveTokens_63 : decode cX11_giveTokens 63 = .ok (.pop, 1) := by decide +kernel
theorem dX11_giveTokens_64 : decode cX11_giveTokens 64 = .ok (.aload_n 0, 1) := by decide +kernel
theorem dX11_giveTokens_65 : decode cX11_giveTokens 65 = .ok (.getfield 18, 3) := by decide +kernel
theorem dX11_giveTokens_68 : decode cX11_giveTokens 68 = .ok (.ldc_w 510, 3) := by decide +kernel
theorem dX11_giveTokens_71 : decode cX11_giveTokens 71 = .ok (.invokevirtual 443, 3) := by decide +kernel
theorem dX11_giveTokens_74 : decode cX11_giveTokens 74 = .ok (.aload_n 0, 1) := by decide +kernel
theorem dX11_giveTokens_75 : decode cX11_giveTokens 75 = .ok (.getfield 18, 3) := by decide +kernel
theorem dX11_giveTokens_78 : decode cX11_giveTokens 78 = .ok (.aload_n 0, 1) := by decide +kernel
theorem dX11_giveTokens_79 : decode cX11_giveTokens 79 = .ok (.getfield 71, 3) := by decide +kernel
theorem dX11_giveTokens_82 : decode cX11_giveTokens 82 = .ok (.invokevirtual 512, 3) := by decide +kernel
theorem dX11_giveTokens_85 : decode cX11_giveTokens 85 = .ok (.iload_n 3, 1) := by decide +kernel
theorem dX11_giveTokens_86 : decode cX11_giveTokens 86 = .ok (.ifCond .eq 67, 3) := by decide +kernel
theorem dX11_giveTokens_89 : decode cX11_giveTokens 89 = .ok (.aload_n 0, 1) := by decide +kernel
theorem dX11_giveTokens_90 : decode cX11_giveTokens 90 = .ok (.getfield 18, 3) := by decide +kernel
theorem dX11_giveTokens_93 : decode cX11_giveTokens 93 = .ok (.ldc_w 515, 3) := by decide +kernel
theorem dX11_giveTokens_96 : decode cX11_giveTokens 96 = .ok (.invokevirtual 443, 3) := by decide +kernel
theorem dX11_giveTokens_99 : decode cX11_giveTokens 99 = .ok (.aload_n 0, 1) := by decide +kernel
theorem dX11_giveTokens_100 : decode cX11_giveTokens 100 = .ok (.getfield 31, 3) := by decide +kernel
theorem dX11_giveTokens_103 : decode cX11_giveTokens 103 = .ok (.iconst 2, 1) := by decide +kernel
theorem dX11_giveTokens_104 : decode cX11_giveTokens 104 = .ok (.aload_n 0, 1) := by decide +kernel
theorem dX11_giveTokens_105 : decode cX11_giveTokens 105 = .ok (.getfield 64, 3) := by decide +kernel
theorem dX11_giveTokens_108 : decode cX11_giveTokens 108 = .ok (.invokevirtual 123, 3) := by decide +kernel
theorem dX11_giveTokens_111 : decode cX11_giveTokens 111 = .ok (.aload_n 0, 1) := by decide +kernel
theorem dX11_giveTokens_112 : decode cX11_giveTokens 112 = .ok (.getfield 18, 3) := by decide +kernel
theorem dX11_giveTokens_115 : decode cX11_giveTokens 115 = .ok (.invokevirtual 455, 3) := by decide +kernel
theorem dX11_giveTokens_118 : decode cX11_giveTokens 118 = .ok (.aload_n 0, 1) := by decide +kernel
theorem dX11_giveTokens_119 : decode cX11_giveTokens 119 = .ok (.getfield 64, 3) := by decide +kernel
theorem dX11_giveTokens_122 : decode cX11_giveTokens 122 = .ok (.new 318, 3) := by decide +kernel
theorem dX11_giveTokens_125 : decode cX11_giveTokens 125 = .ok (.dup, 1) := by decide +kernel
theorem dX11_giveTokens_126 : decode cX11_giveTokens 126 = .ok (.aload_n 1, 1) := by decide +kernel
theorem dX11_giveTokens_127 : decode cX11_giveTokens 127 = .ok (.iload_n 2, 1) := by decide +kernel
theorem dX11_giveTokens_128 : decode cX11_giveTokens 128 = .ok (.aload_n 0, 1) := by decide +kernel
theorem dX11_giveTokens_129 : decode cX11_giveTokens 129 = .ok (.getfield 77, 3) := by decide +kernel
theorem dX11_giveTokens_132 : decode cX11_giveTokens 132 = .ok (.aload_n 0, 1) := by decide +kernel
theorem dX11_giveTokens_133 : decode cX11_giveTokens 133 = .ok (.getfield 74, 3) := by decide +kernel
theorem dX11_giveTokens_136 : decode cX11_giveTokens 136 = .ok (.iadd, 1) := by decide +kernel
theorem dX11_giveTokens_137 : decode cX11_giveTokens 137 = .ok (.invokespecial 507, 3) := by decide +kernel
theorem dX11_giveTokens_140 : decode cX11_giveTokens 140 = .ok (.invokevirtual 129, 3) := by decide +kernel
theorem dX11_giveTokens_143 : decode cX11_giveTokens 143 = .ok (.pop, 1) := by decide +kernel
theorem dX11_giveTokens_144 : decode cX11_giveTokens 144 = .ok (.aload_n 0, 1) := by decide +kernel
theorem dX11_giveTokens_145 : decode cX11_giveTokens 145 = .ok (.getfield 18, 3) := by decide +kernel
theorem dX11_giveTokens_148 : decode cX11_giveTokens 148 = .ok (.bipush 34, 2) := by decide +kernel
theorem dX11_giveTokens_150 : decode cX11_giveTokens 150 = .ok (.invokevirtual 459, 3) := by decide +kernel
theorem dX11_giveTokens_153 : decode cX11_giveTokens 153 = .ok (.aload_n 0, 1) := by decide +kernel
theorem dX11_giveTokens_154 : decode cX11_giveTokens 154 = .ok (.getfield 18, 3) := by decide +kernel
theorem dX11_giveTokens_157 : decode cX11_giveTokens 157 = .ok (.ldc_w 517, 3) := by decide +kernel
theorem dX11_giveTokens_160 : decode cX11_giveTokens 160 = .ok (.invokevirtual 443, 3) := by decide +kernel
theorem dX11_giveTokens_163 : decode cX11_giveTokens 163 = .ok (.aload_n 0, 1) := by decide +kernel
theorem dX11_giveTokens_164 : decode cX11_giveTokens 164 = .ok (.iload_n 2, 1) := by decide +kernel
theorem dX11_giveTokens_165 : decode cX11_giveTokens 165 = .ok (.invokevirtual 519, 3) := by decide +kernel
theorem dX11_giveTokens_168 : decode cX11_giveTokens 168 = .ok (.aload_n 0, 1) := by decide +kernel
theorem dX11_giveTokens_169 : decode cX11_giveTokens 169 = .ok (.getfield 18, 3) := by decide +kernel
theorem dX11_giveTokens_172 : decode cX11_giveTokens 172 = .ok (.ldc_w 522, 3) := by decide +kernel
theorem dX11_giveTokens_175 : decode cX11_giveTokens 175 = .ok (.invokevirtual 443, 3) := by decide +kernel
theorem dX11_giveTokens_178 : decode cX11_giveTokens 178 = .ok (.aload_n 0, 1) := by decide +kernel
theorem dX11_giveTokens_179 : decode cX11_giveTokens 179 = .ok (.getfield 80, 3) := by decide +kernel
theorem dX11_giveTokens_182 : decode cX11_giveTokens 182 = .ok (.ireturn, 1) := by decide +kernel
theorem dX11_addScopeWords_0 : decode cX11_addScopeWords 0 = .ok (.iconst 1, 1) := by decide +kernel
theorem dX11_addScopeWords_1 : decode cX11_addScopeWords 1 = .ok (.istore_n 2, 1) := by decide +kernel
theorem dX11_addScopeWords_2 : decode cX11_addScopeWords 2 = .ok (.iconst 0, 1) := by decide +kernel
theorem dX11_addScopeWords_3 : decode cX11_addScopeWords 3 = .ok (.istore_n 3, 1) := by decide +kernel
theorem dX11_addScopeWords_4 : decode cX11_addScopeWords 4 = .ok (.iload_n 3, 1) := by decide +kernel
theorem dX11_addScopeWords_5 : decode cX11_addScopeWords 5 = .ok (.aload_n 0, 1) := by decide +kernel
theorem dX11_addScopeWords_6 : decode cX11_addScopeWords 6 = .ok (.getfield 45, 3) := by decide +kernel
theorem dX11_addScopeWords_9 : decode cX11_addScopeWords 9 = .ok (.invokevirtual 123, 3) := by decide +kernel
theorem dX11_addScopeWords_12 : decode cX11_addScopeWords 12 = .ok (.if_icmp .ge 67, 3) := by decide +kernel
theorem dX11_addScopeWords_15 : decode cX11_addScopeWords 15 = .ok (.iconst 1, 1) := by decide +kernel
theorem dX11_addScopeWords_16 : decode cX11_addScopeWords 16 = .ok (.iload_n 3, 1) := by decide +kernel
theorem dX11_addScopeWords_17 : decode cX11_addScopeWords 17 = .ok (.ishl, 1) := by decide +kernel
theorem dX11_addScopeWords_18 : decode cX11_addScopeWords 18 = .ok (.iload_n 1, 1) := by decide +kernel
theorem dX11_addScopeWords_19 : decode cX11_addScopeWords 19 = .ok (.invokestatic 254, 3) := by decide +kernel
theorem dX11_addScopeWords_22 : decode cX11_addScopeWords 22 = .ok (.ifCond .eq 51, 3) := by decide +kernel
theorem dX11_addScopeWords_25 : decode cX11_addScopeWords 25 = .ok (.iload_n 2, 1) := by decide +kernel
theorem dX11_addScopeWords_26 : decode cX11_addScopeWords 26 = .ok (.ifCond .ne 12, 3) := by decide +kernel
theorem dX11_addScopeWords_29 : decode cX11_addScopeWords 29 = .ok (.aload_n 0, 1) := by decide +kernel
theorem dX11_addScopeWords_30 : decode cX11_addScopeWords 30 = .ok (.getfield 18, 3) := by decide +kernel
theorem dX11_addScopeWords_33 : decode cX11_addScopeWords 33 = .ok (.bipush 32, 2) := by decide +kernel
theorem dX11_addScopeWords_35 : decode cX11_addScopeWords 35 = .ok (.invokevirtual 459, 3) := by decide +kernel
theorem dX11_addScopeWords_38 : decode cX11_addScopeWords 38 = .ok (.aload_n 0, 1) := by decide +kernel
theorem dX11_addScopeWords_39 : decode cX11_addScopeWords 39 = .ok (.getfield 18, 3) := by decide +kernel
theorem dX11_addScopeWords_42 : decode cX11_addScopeWords 42 = .ok (.aload_n 0, 1) := by decide +kernel
theorem dX11_addScopeWords_43 : decode cX11_addScopeWords 43 = .ok (.getfield 45, 3) := by decide +kernel
theorem dX11_addScopeWords_46 : decode cX11_addScopeWords 46 = .ok (.iload_n 3, 1) := by decide +kernel
theorem dX11_addScopeWords_47 : decode cX11_addScopeWords 47 = .ok (.invokevirtual 163, 3) := by decide +kernel
theorem dX11_addScopeWords_50 : decode cX11_addScopeWords 50 = .ok (.checkcast 7, 3) := by decide +kernel
theorem dX11_addScopeWords_53 : decode cX11_addScopeWords 53 = .ok (.iconst 0, 1) := by decide +kernel
theorem dX11_addScopeWords_54 : decode cX11_addScopeWords 54 = .ok (.aload_n 0, 1) := by decide +kernel
theorem dX11_addScopeWords_55 : decode cX11_addScopeWords 55 = .ok (.getfield 45, 3) := by decide +kernel
theorem dX11_addScopeWords_58 : decode cX11_addScopeWords 58 = .ok (.iload_n 3, 1) := by decide +kernel
theorem dX11_addScopeWords_59 : decode cX11_addScopeWords 59 = .ok (.invokevirtual 163, 3) := by decide +kernel
theorem dX11_addScopeWords_62 : decode cX11_addScopeWords 62 = .ok (.checkcast 7, 3) := by decide +kernel
theorem dX11_addScopeWords_65 : decode cX11_addScopeWords 65 = .ok (.invokevirtual 86, 3) := by decide +kernel
theorem dX11_addScopeWords_68 : decode cX11_addScopeWords 68 = .ok (.invokevirtual 97, 3) := by decide +kernel
theorem dX11_addScopeWords_71 : decode cX11_addScopeWords 71 = .ok (.iconst 0, 1) := by decide +kernel
theorem dX11_addScopeWords_72 : decode cX11_addScopeWords 72 = .ok (.istore_n 2, 1) := by decide +kernel
theorem dX11_addScopeWords_73 : decode cX11_addScopeWords 73 = .ok (.iinc 3 1, 3) := by decide +kernel
theorem dX11_addScopeWords_76 : decode cX11_addScopeWords 76 = .ok (.goto (-72), 3) := by decide +kernel
theorem dX11_addScopeWords_79 : decode cX11_addScopeWords 79 = .ok (.return_, 1) := by decide +kernel
theorem dX11_codeOf_0 : decode cX11_codeOf 0 = .ok (.aload_n 0, 1) := by decide +kernel
theorem dX11_codeOf_1 : decode cX11_codeOf 1 = .ok (.getfield 31, 3) := by decide +kernel
theorem dX11_codeOf_4 : decode cX11_codeOf 4 = .ok (.iconst 0, 1) := by decide +kernel
theorem dX11_codeOf_5 : decode cX11_codeOf 5 = .ok (.aload_n 1, 1) := by decide +kernel
theorem dX11_codeOf_6 : decode cX11_codeOf 6 = .ok (.invokevirtual 524, 3) := by decide +kernel
theorem dX11_codeOf_9 : decode cX11_codeOf 9 = .ok (.istore_n 2, 1) := by decide +kernel
theorem dX11_codeOf_10 : decode cX11_codeOf 10 = .ok (.iload_n 2, 1) := by decide +kernel
theorem dX11_codeOf_11 : decode cX11_codeOf 11 = .ok (.ifCond .lt 28, 3) := by decide +kernel
theorem dX11_codeOf_14 : decode cX11_codeOf 14 = .ok (.iload_n 2, 1) := by decide +kernel
theorem dX11_codeOf_15 : decode cX11_codeOf 15 = .ok (.aload_n 0, 1) := by decide +kernel
theorem dX11_codeOf_16 : decode cX11_codeOf 16 = .ok (.getfield 55, 3) := by decide +kernel
theorem dX11_codeOf_19 : decode cX11_codeOf 19 = .ok (.invokevirtual 123, 3) := by decide +kernel
theorem dX11_codeOf_22 : decode cX11_codeOf 22 = .ok (.if_icmp .ge 17, 3) := by decide +kernel
theorem dX11_codeOf_25 : decode cX11_codeOf 25 = .ok (.aload_n 0, 1) := by decide +kernel
theorem dX11_codeOf_26 : decode cX11_codeOf 26 = .ok (.getfield 55, 3) := by decide +kernel
theorem dX11_codeOf_29 : decode cX11_codeOf 29 = .ok (.iload_n 2, 1) := by decide +kernel
theorem dX11_codeOf_30 : decode cX11_codeOf 30 = .ok (.invokevirtual 163, 3) := by decide +kernel
theorem dX11_codeOf_33 : decode cX11_codeOf 33 = .ok (.checkcast 273, 3) := by decide +kernel
theorem dX11_codeOf_36 : decode cX11_codeOf 36 = .ok (.goto 4, 3) := by decide +kernel
theorem dX11_codeOf_39 : decode cX11_codeOf 39 = .ok (.aconst_null, 1) := by decide +kernel
theorem dX11_codeOf_40 : decode cX11_codeOf 40 = .ok (.areturn, 1) := by decide +kernel
theorem dX11_accessOf_0 : decode cX11_accessOf 0 = .ok (.aload_n 0, 1) := by decide +kernel
theorem dX11_accessOf_1 : decode cX11_accessOf 1 = .ok (.getfield 31, 3) := by decide +kernel
theorem dX11_accessOf_4 : decode cX11_accessOf 4 = .ok (.iconst 1, 1) := by decide +kernel
theorem dX11_accessOf_5 : decode cX11_accessOf 5 = .ok (.aload_n 1, 1) := by decide +kernel
theorem dX11_accessOf_6 : decode cX11_accessOf 6 = .ok (.invokevirtual 524, 3) := by decide +kernel
theorem dX11_accessOf_9 : decode cX11_accessOf 9 = .ok (.istore_n 2, 1) := by decide +kernel
theorem dX11_accessOf_10 : decode cX11_accessOf 10 = .ok (.iload_n 2, 1) := by decide +kernel
theorem dX11_accessOf_11 : decode cX11_accessOf 11 = .ok (.ifCond .lt 28, 3) := by decide +kernel
theorem dX11_accessOf_14 : decode cX11_accessOf 14 = .ok (.iload_n 2, 1) := by decide +kernel
theorem dX11_accessOf_15 : decode cX11_accessOf 15 = .ok (.aload_n 0, 1) := by decide +kernel
theorem dX11_accessOf_16 : decode cX11_accessOf 16 = .ok (.getfield 61, 3) := by decide +kernel
theorem dX11_accessOf_19 : decode cX11_accessOf 19 = .ok (.invokevirtual 123, 3) := by decide +kernel
theorem dX11_accessOf_22 : decode cX11_accessOf 22 = .ok (.if_icmp .ge 17, 3) := by decide +kernel
theorem dX11_accessOf_25 : decode cX11_accessOf 25 = .ok (.aload_n 0, 1) := by decide +kernel
theorem dX11_accessOf_26 : decode cX11_accessOf 26 = .ok (.getfield 61, 3) := by decide +kernel
theorem dX11_accessOf_29 : decode cX11_accessOf 29 = .ok (.iload_n 2, 1) := by decide +kernel
theorem dX11_accessOf_30 : decode cX11_accessOf 30 = .ok (.invokevirtual 163, 3) := by decide +kernel
theorem dX11_accessOf_33 : decode cX11_accessOf 33 = .ok (.checkcast 318, 3) := by decide +kernel
theorem dX11_accessOf_36 : decode cX11_accessOf 36 = .ok (.goto 4, 3) := by decide +kernel
theorem dX11_accessOf_39 : decode cX11_accessOf 39 = .ok (.aconst_null, 1) := by decide +kernel
theorem dX11_accessOf_40 : decode cX11_accessOf 40 = .ok (.areturn, 1) := by decide +kernel
theorem dX11_refreshOf_0 : decode cX11_refreshOf 0 = .ok (.aload_n 0, 1) := by decide +kernel
theorem dX11_refreshOf_1 : decode cX11_refreshOf 1 = .ok (.getfield 31, 3) := by decide +kernel
theorem dX11_refreshOf_4 : decode cX11_refreshOf 4 = .ok (.iconst 2, 1) := by decide +kernel
theorem dX11_refreshOf_5 : decode cX11_refreshOf 5 = .ok (.aload_n 1, 1) := by decide +kernel
theorem dX11_refreshOf_6 : decode cX11_refreshOf 6 = .ok (.invokevirtual 524, 3) := by decide +kernel
theorem dX11_refreshOf_9 : decode cX11_refreshOf 9 = .ok (.istore_n 2, 1) := by decide +kernel
theorem dX11_refreshOf_10 : decode cX11_refreshOf 10 = .ok (.iload_n 2, 1) := by decide +kernel
theorem dX11_refreshOf_11 : decode cX11_refreshOf 11 = .ok (.ifCond .lt 28, 3) := by decide +kernel
theorem dX11_refreshOf_14 : decode cX11_refreshOf 14 = .ok (.iload_n 2, 1) := by decide +kernel
theorem dX11_refreshOf_15 : decode cX11_refreshOf 15 = .ok (.aload_n 0, 1) := by decide +kernel
theorem dX11_refreshOf_16 : decode cX11_refreshOf 16 = .ok (.getfield 64, 3) := by decide +kernel
theorem dX11_refreshOf_19 : decode cX11_refreshOf 19 = .ok (.invokevirtual 123, 3) := by decide +kernel
theorem dX11_refreshOf_22 : decode cX11_refreshOf 22 = .ok (.if_icmp .ge 17, 3) := by decide +kernel
theorem dX11_refreshOf_25 : decode cX11_refreshOf 25 = .ok (.aload_n 0, 1) := by decide +kernel
theorem dX11_refreshOf_26 : decode cX11_refreshOf 26 = .ok (.getfield 64, 3) := by decide +kernel
theorem dX11_refreshOf_29 : decode cX11_refreshOf 29 = .ok (.iload_n 2, 1) := by decide +kernel
theorem dX11_refreshOf_30 : decode cX11_refreshOf 30 = .ok (.invokevirtual 163, 3) := by decide +kernel
theorem dX11_refreshOf_33 : decode cX11_refreshOf 33 = .ok (.checkcast 318, 3) := by decide +kernel
theorem dX11_refreshOf_36 : decode cX11_refreshOf 36 = .ok (.goto 4, 3) := by decide +kernel
theorem dX11_refreshOf_39 : decode cX11_refreshOf 39 = .ok (.aconst_null, 1) := by decide +kernel
theorem dX11_refreshOf_40 : decode cX11_refreshOf 40 = .ok (.areturn, 1) := by decide +kernel
theorem dX11_goodAccessTokens_0 : decode cX11_goodAccessTokens 0 = .ok (.iconst 0, 1) := by decide +kernel
theorem dX11_goodAccessTokens_1 : decode cX11_goodAccessTokens 1 = .ok (.istore_n 2, 1) := by decide +kernel
theorem dX11_goodAccessTokens_2 : decode cX11_goodAccessTokens 2 = .ok (.iconst 0, 1) := by decide +kernel
theorem dX11_goodAccessTokens_3 : decode cX11_goodAccessTokens 3 = .ok (.istore_n 3, 1) := by decide +kernel
theorem dX11_goodAccessTokens_4 : decode cX11_goodAccessTokens 4 = .ok (.iload_n 3, 1) := by decide +kernel
theorem dX11_goodAccessTokens_5 : decode cX11_goodAccessTokens 5 = .ok (.aload_n 0, 1) := by decide +kernel
theorem dX11_goodAccessTokens_6 : decode cX11_goodAccessTokens 6 = .ok (.getfield 61, 3) := by decide +kernel
theorem dX11_goodAccessTokens_9 : decode cX11_goodAccessTokens 9 = .ok (.invokevirtual 123, 3) := by decide +kernel
theorem dX11_goodAccessTokens_12 : decode cX11_goodAccessTokens 12 = .ok (.if_icmp .ge 49, 3) := by decide +kernel
theorem dX11_goodAccessTokens_15 : decode cX11_goodAccessTokens 15 = .ok (.aload_n 0, 1) := by decide +kernel
theorem dX11_goodAccessTokens_16 : decode cX11_goodAccessTokens 16 = .ok (.getfield 61, 3) := by decide +kernel
theorem dX11_goodAccessTokens_19 : decode cX11_goodAccessTokens 19 = .ok (.iload_n 3, 1) := by decide +kernel
theorem dX11_goodAccessTokens_20 : decode cX11_goodAccessTokens 20 = .ok (.invokevirtual 163, 3) := by decide +kernel
theorem dX11_goodAccessTokens_23 : decode cX11_goodAccessTokens 23 = .ok (.checkcast 318, 3) := by decide +kernel
theorem dX11_goodAccessTokens_26 : decode cX11_goodAccessTokens 26 = .ok (.astore 4, 2) := by decide +kernel
theorem dX11_goodAccessTokens_28 : decode cX11_goodAccessTokens 28 = .ok (.aload 4, 2) := by decide +kernel
theorem dX11_goodAccessTokens_30 : decode cX11_goodAccessTokens 30 = .ok (.getfield 317, 3) := by decide +kernel
theorem dX11_goodAccessTokens_33 : decode cX11_goodAccessTokens 33 = .ok (.getfield 367, 3) := by decide +kernel
theorem dX11_goodAccessTokens_36 : decode cX11_goodAccessTokens 36 = .ok (.iload_n 1, 1) := by decide +kernel
theorem dX11_goodAccessTokens_37 : decode cX11_goodAccessTokens 37 = .ok (.if_icmp .ne 18, 3) := by decide +kernel
theorem dX11_goodAccessTokens_40 : decode cX11_goodAccessTokens 40 = .ok (.aload 4, 2) := by decide +kernel
theorem dX11_goodAccessTokens_42 : decode cX11_goodAccessTokens 42 = .ok (.aload_n 0, 1) := by decide +kernel
theorem dX11_goodAccessTokens_43 : decode cX11_goodAccessTokens 43 = .ok (.getfield 77, 3) := by decide +kernel
theorem dX11_goodAccessTokens_46 : decode cX11_goodAccessTokens 46 = .ok (.invokevirtual 342, 3) := by decide +kernel
theorem dX11_goodAccessTokens_49 : decode cX11_goodAccessTokens 49 = .ok (.ifCond .eq 6, 3) := by decide +kernel
theorem dX11_goodAccessTokens_52 : decode cX11_goodAccessTokens 52 = .ok (.iinc 2 1, 3) := by decide +kernel
theorem dX11_goodAccessTokens_55 : decode cX11_goodAccessTokens 55 = .ok (.iinc 3 1, 3) := by decide +kernel
theorem dX11_goodAccessTokens_58 : decode cX11_goodAccessTokens 58 = .ok (.goto (-54), 3) := by decide +kernel
theorem dX11_goodAccessTokens_61 : decode cX11_goodAccessTokens 61 = .ok (.iload_n 2, 1) := by decide +kernel
theorem dX11_goodAccessTokens_62 : decode cX11_goodAccessTokens 62 = .ok (.ireturn, 1) := by decide +kernel
theorem dX11_openRequests_0 : decode cX11_openRequests 0 = .ok (.iconst 0, 1) := by decide +kernel
theorem dX11_openRequests_1 : decode cX11_openRequests 1 = .ok (.istore_n 1, 1) := by decide +kernel
theorem dX11_openRequests_2 : decode cX11_openRequests 2 = .ok (.iconst 0, 1) := by decide +kernel
theorem dX11_openRequests_3 : decode cX11_openRequests 3 = .ok (.istore_n 2, 1) := by decide +kernel
theorem dX11_openRequests_4 : decode cX11_openRequests 4 = .ok (.iload_n 2, 1) := by decide +kernel
theorem dX11_openRequests_5 : decode cX11_openRequests 5 = .ok (.aload_n 0, 1) := by decide +kernel
theorem dX11_openRequests_6 : decode cX11_openRequests 6 = .ok (.getfield 52, 3) := by decide +kernel
theorem dX11_openRequests_9 : decode cX11_openRequests 9 = .ok (.invokevirtual 123, 3) := by decide +kernel
theorem dX11_openRequests_12 : decode cX11_openRequests 12 = .ok (.if_icmp .ge 34, 3) := by decide +kernel
theorem dX11_openRequests_15 : decode cX11_openRequests 15 = .ok (.iload_n 1, 1) := by decide +kernel
theorem dX11_openRequests_16 : decode cX11_openRequests 16 = .ok (.aload_n 0, 1) := by decide +kernel
theorem dX11_openRequests_17 : decode cX11_openRequests 17 = .ok (.getfield 52, 3) := by decide +kernel
theorem dX11_openRequests_20 : decode cX11_openRequests 20 = .ok (.iload_n 2, 1) := by decide +kernel
theorem dX11_openRequests_21 : decode cX11_openRequests 21 = .ok (.invokevirtual 163, 3) := by decide +kernel
theorem dX11_openRequests_24 : decode cX11_openRequests 24 = .ok (.checkcast 228, 3) := by decide +kernel
theorem dX11_openRequests_27 : decode cX11_openRequests 27 = .ok (.getfield 244, 3) := by decide +kernel
theorem dX11_openRequests_30 : decode cX11_openRequests 30 = .ok (.ifCond .eq 7, 3) := by decide +kernel
theorem dX11_openRequests_33 : decode cX11_openRequests 33 = .ok (.iconst 1, 1) := by decide +kernel
theorem dX11_openRequests_34 : decode cX11_openRequests 34 = .ok (.goto 4, 3) := by decide +kernel
theorem dX11_openRequests_37 : decode cX11_openRequests 37 = .ok (.iconst 0, 1) := by decide +kernel
theorem dX11_openRequests_38 : decode cX11_openRequests 38 = .ok (.iadd, 1) := by decide +kernel
theorem dX11_openRequests_39 : decode cX11_openRequests 39 = .ok (.istore_n 1, 1) := by decide +kernel
theorem dX11_openRequests_40 : decode cX11_openRequests 40 = .ok (.iinc 2 1, 3) := by decide +kernel
theorem dX11_openRequests_43 : decode cX11_openRequests 43 = .ok (.goto (-39), 3) := by decide +kernel
theorem dX11_openRequests_46 : decode cX11_openRequests 46 = .ok (.iload_n 1, 1) := by decide +kernel
theorem dX11_openRequests_47 : decode cX11_openRequests 47 = .ok (.ireturn, 1) := by decide +kernel
theorem dX11_familiesTakenBack_0 : decode cX11_familiesTakenBack 0 = .ok (.iconst 0, 1) := by decide +kernel
theorem dX11_familiesTakenBack_1 : decode cX11_familiesTakenBack 1 = .ok (.istore_n 1, 1) := by decide +kernel
theorem dX11_familiesTakenBack_2 : decode cX11_familiesTakenBack 2 = .ok (.iconst 0, 1) := by decide +kernel
theorem dX11_familiesTakenBack_3 : decode cX11_familiesTakenBack 3 = .ok (.istore_n 2, 1) := by decide +kernel
theorem dX11_familiesTakenBack_4 : decode cX11_familiesTakenBack 4 = .ok (.iload_n 2, 1) := by decide +kernel
theorem dX11_familiesTakenBack_5 : decode cX11_familiesTakenBack 5 = .ok (.aload_n 0, 1) := by decide +kernel
theorem dX11_familiesTakenBack_6 : decode cX11_familiesTakenBack 6 = .ok (.getfield 58, 3) := by decide +kernel
theorem dX11_familiesTakenBack_9 : decode cX11_familiesTakenBack 9 = .ok (.invokevirtual 123, 3) := by decide +kernel
theorem dX11_familiesTakenBack_12 : decode cX11_familiesTakenBack 12 = .ok (.if_icmp .ge 34, 3) := by decide +kernel
theorem dX11_familiesTakenBack_15 : decode cX11_familiesTakenBack 15 = .ok (.iload_n 1, 1) := by decide +kernel
theorem dX11_familiesTakenBack_16 : decode cX11_familiesTakenBack 16 = .ok (.aload_n 0, 1) := by decide +kernel
theorem dX11_familiesTakenBack_17 : decode cX11_familiesTakenBack 17 = .ok (.getfield 58, 3) := by decide +kernel
theorem dX11_familiesTakenBack_20 : decode cX11_familiesTakenBack 20 = .ok (.iload_n 2, 1) := by decide +kernel
theorem dX11_familiesTakenBack_21 : decode cX11_familiesTakenBack 21 = .ok (.invokevirtual 163, 3) := by decide +kernel
theorem dX11_familiesTakenBack_24 : decode cX11_familiesTakenBack 24 = .ok (.checkcast 324, 3) := by decide +kernel
theorem dX11_familiesTakenBack_27 : decode cX11_familiesTakenBack 27 = .ok (.getfield 331, 3) := by decide +kernel
theorem dX11_familiesTakenBack_30 : decode cX11_familiesTakenBack 30 = .ok (.ifCond .eq 7, 3) := by decide +kernel
theorem dX11_familiesTakenBack_33 : decode cX11_familiesTakenBack 33 = .ok (.iconst 1, 1) := by decide +kernel
theorem dX11_familiesTakenBack_34 : decode cX11_familiesTakenBack 34 = .ok (.goto 4, 3) := by decide +kernel
theorem dX11_familiesTakenBack_37 : decode cX11_familiesTakenBack 37 = .ok (.iconst 0, 1) := by decide +kernel
theorem dX11_familiesTakenBack_38 : decode cX11_familiesTakenBack 38 = .ok (.iadd, 1) := by decide +kernel
theorem dX11_familiesTakenBack_39 : decode cX11_familiesTakenBack 39 = .ok (.istore_n 1, 1) := by decide +kernel
theorem dX11_familiesTakenBack_40 : decode cX11_familiesTakenBack 40 = .ok (.iinc 2 1, 3) := by decide +kernel
theorem dX11_familiesTakenBack_43 : decode cX11_familiesTakenBack 43 = .ok (.goto (-39), 3) := by decide +kernel
theorem dX11_familiesTakenBack_46 : decode cX11_familiesTakenBack 46 = .ok (.iload_n 1, 1) := by decide +kernel
theorem dX11_familiesTakenBack_47 : decode cX11_familiesTakenBack 47 = .ok (.ireturn, 1) := by decide +kernel
theorem dX11_answer_0 : decode cX11_answer 0 = .ok (.aload_n 0, 1) := by decide +kernel
theorem dX11_answer_1 : decode cX11_answer 1 = .ok (.iload_n 1, 1) := by decide +kernel
theorem dX11_answer_2 : decode cX11_answer 2 = .ok (.putfield 80, 3) := by decide +kernel
theorem dX11_answer_5 : decode cX11_answer 5 = .ok (.aload_n 0, 1) := by decide +kernel
theorem dX11_answer_6 : decode cX11_answer 6 = .ok (.iload_n 2, 1) := by decide +kernel
theorem dX11_answer_7 : decode cX11_answer 7 = .ok (.putfield 83, 3) := by decide +kernel
theorem dX11_answer_10 : decode cX11_answer 10 = .ok (.aload_n 0, 1) := by decide +kernel
theorem dX11_answer_11 : decode cX11_answer 11 = .ok (.getfield 18, 3) := by decide +kernel
theorem dX11_answer_14 : decode cX11_answer 14 = .ok (.invokevirtual 109, 3) := by decide +kernel
theorem dX11_answer_17 : decode cX11_answer 17 = .ok (.iload_n 1, 1) := by decide +kernel
theorem dX11_answer_18 : decode cX11_answer 18 = .ok (.ireturn, 1) := by decide +kernel
theorem dX11_refuse_0 : decode cX11_refuse 0 = .ok (.aload_n 0, 1) := by decide +kernel
theorem dX11_refuse_1 : decode cX11_refuse 1 = .ok (.sipush 400, 3) := by decide +kernel
theorem dX11_refuse_4 : decode cX11_refuse 4 = .ok (.iload_n 1, 1) := by decide +kernel
theorem dX11_refuse_5 : decode cX11_refuse 5 = .ok (.invokevirtual 240, 3) := by decide +kernel
theorem dX11_refuse_8 : decode cX11_refuse 8 = .ok (.pop, 1) := by decide +kernel
theorem dX11_refuse_9 : decode cX11_refuse 9 = .ok (.iconst (-1), 1) := by decide +kernel
theorem dX11_refuse_10 : decode cX11_refuse 10 = .ok (.ireturn, 1) := by decide +kernel
theorem dX11_deny_0 : decode cX11_deny 0 = .ok (.aload_n 0, 1) := by decide +kernel
theorem dX11_deny_1 : decode cX11_deny 1 = .ok (.iload_n 1, 1) := by decide +kernel
theorem dX11_deny_2 : decode cX11_deny 2 = .ok (.iload_n 2, 1) := by decide +kernel
theorem dX11_deny_3 : decode cX11_deny 3 = .ok (.invokevirtual 240, 3) := by decide +kernel
theorem dX11_deny_6 : decode cX11_deny 6 = .ok (.pop, 1) := by decide +kernel
theorem dX11_deny_7 : decode cX11_deny 7 = .ok (.aload_n 0, 1) := by decide +kernel
theorem dX11_deny_8 : decode cX11_deny 8 = .ok (.getfield 18, 3) := by decide +kernel
theorem dX11_deny_11 : decode cX11_deny 11 = .ok (.ldc_w 528, 3) := by decide +kernel
theorem dX11_deny_14 : decode cX11_deny 14 = .ok (.invokevirtual 443, 3) := by decide +kernel
theorem dX11_deny_17 : decode cX11_deny 17 = .ok (.aload_n 0, 1) := by decide +kernel
theorem dX11_deny_18 : decode cX11_deny 18 = .ok (.getfield 18, 3) := by decide +kernel
theorem dX11_deny_21 : decode cX11_deny 21 = .ok (.iload_n 2, 1) := by decide +kernel
theorem dX11_deny_22 : decode cX11_deny 22 = .ok (.invokestatic 446, 3) := by decide +kernel
theorem dX11_deny_25 : decode cX11_deny 25 = .ok (.invokevirtual 443, 3) := by decide +kernel
theorem dX11_deny_28 : decode cX11_deny 28 = .ok (.aload_n 0, 1) := by decide +kernel
theorem dX11_deny_29 : decode cX11_deny 29 = .ok (.getfield 18, 3) := by decide +kernel
theorem dX11_deny_32 : decode cX11_deny 32 = .ok (.ldc_w 522, 3) := by decide +kernel
theorem dX11_deny_35 : decode cX11_deny 35 = .ok (.invokevirtual 443, 3) := by decide +kernel
theorem dX11_deny_38 : decode cX11_deny 38 = .ok (.iload_n 1, 1) := by decide +kernel
theorem dX11_deny_39 : decode cX11_deny 39 = .ok (.ireturn, 1) := by decide +kernel
theorem dX11_wordOf_0 : decode cX11_wordOf 0 = .ok (.iload_n 0, 1) := by decide +kernel
theorem dX11_wordOf_1 : decode cX11_wordOf 1 = .ok (.tableswitch 99 1 11 #[59, 99, 63, 67, 71, 75, 79, 83, 87, 91, 95], 59) := by decide +kernel
theorem dX11_wordOf_60 : decode cX11_wordOf 60 = .ok (.ldc_w 530, 3) := by decide +kernel
theorem dX11_wordOf_63 : decode cX11_wordOf 63 = .ok (.areturn, 1) := by decide +kernel
theorem dX11_wordOf_64 : decode cX11_wordOf 64 = .ok (.ldc_w 532, 3) := by decide +kernel
theorem dX11_wordOf_67 : decode cX11_wordOf 67 = .ok (.areturn, 1) := by decide +kernel
theorem dX11_wordOf_68 : decode cX11_wordOf 68 = .ok (.ldc_w 534, 3) := by decide +kernel
theorem dX11_wordOf_71 : decode cX11_wordOf 71 = .ok (.areturn, 1) := by decide +kernel
theorem dX11_wordOf_72 : decode cX11_wordOf 72 = .ok (.ldc_w 536, 3) := by decide +kernel
theorem dX11_wordOf_75 : decode cX11_wordOf 75 = .ok (.areturn, 1) := by decide +kernel
theorem dX11_wordOf_76 : decode cX11_wordOf 76 = .ok (.ldc_w 538, 3) := by decide +kernel
theorem dX11_wordOf_79 : decode cX11_wordOf 79 = .ok (.areturn, 1) := by decide +kernel
theorem dX11_wordOf_80 : decode cX11_wordOf 80 = .ok (.ldc_w 540, 3) := by decide +kernel
theorem dX11_wordOf_83 : decode cX11_wordOf 83 = .ok (.areturn, 1) := by decide +kernel
theorem dX11_wordOf_84 : decode cX11_wordOf 84 = .ok (.ldc_w 542, 3) := by decide +kernel
theorem dX11_wordOf_87 : decode cX11_wordOf 87 = .ok (.areturn, 1) := by decide +kernel
theorem dX11_wordOf_88 : decode cX11_wordOf 88 = .ok (.ldc_w 544, 3) := by decide +kernel
theorem dX11_wordOf_91 : decode cX11_wordOf 91 = .ok (.areturn, 1) := by decide +kernel
theorem dX11_wordOf_92 : decode cX11_wordOf 92 = .ok (.ldc_w 546, 3) := by decide +kernel
theorem dX11_wordOf_95 : decode cX11_wordOf 95 = .ok (.areturn, 1) := by decide +kernel
theorem dX11_wordOf_96 : decode cX11_wordOf 96 = .ok (.ldc_w 548, 3) := by decide +kernel
theorem dX11_wordOf_99 : decode cX11_wordOf 99 = .ok (.areturn, 1) := by decide +kernel
theorem dX11_wordOf_100 : decode cX11_wordOf 100 = .ok (.ldc_w 550, 3) := by decide +kernel
theorem dX11_wordOf_103 : decode cX11_wordOf 103 = .ok (.areturn, 1) := by decide +kernel
theorem dX11_isVisibleByte_0 : decode cX11_isVisibleByte 0 = .ok (.iload_n 0, 1) := by decide +kernel
theorem dX11_isVisibleByte_1 : decode cX11_isVisibleByte 1 = .ok (.bipush 33, 2) := by decide +kernel
theorem dX11_isVisibleByte_3 : decode cX11_isVisibleByte 3 = .ok (.if_icmp .lt 13, 3) := by decide +kernel
theorem dX11_isVisibleByte_6 : decode cX11_isVisibleByte 6 = .ok (.iload_n 0, 1) := by decide +kernel
theorem dX11_isVisibleByte_7 : decode cX11_isVisibleByte 7 = .ok (.bipush 126, 2) := by decide +kernel
theorem dX11_isVisibleByte_9 : decode cX11_isVisibleByte 9 = .ok (.if_icmp .gt 7, 3) := by decide +kernel
theorem dX11_isVisibleByte_12 : decode cX11_isVisibleByte 12 = .ok (.iconst 1, 1) := by decide +kernel
theorem dX11_isVisibleByte_13 : decode cX11_isVisibleByte 13 = .ok (.goto 4, 3) := by decide +kernel
theorem dX11_isVisibleByte_16 : decode cX11_isVisibleByte 16 = .ok (.iconst 0, 1) := by decide +kernel
theorem dX11_isVisibleByte_17 : decode cX11_isVisibleByte 17 = .ok (.ireturn, 1) := by decide +kernel
theorem dX11_isUnreserved_0 : decode cX11_isUnreserved 0 = .ok (.iload_n 0, 1) := by decide +kernel
theorem dX11_isUnreserved_1 : decode cX11_isUnreserved 1 = .ok (.bipush 65, 2) := by decide +kernel
theorem dX11_isUnreserved_3 : decode cX11_isUnreserved 3 = .ok (.if_icmp .lt 9, 3) := by decide +kernel
theorem dX11_isUnreserved_6 : decode cX11_isUnreserved 6 = .ok (.iload_n 0, 1) := by decide +kernel
theorem dX11_isUnreserved_7 : decode cX11_isUnreserved 7 = .ok (.bipush 90, 2) := by decide +kernel
theorem dX11_isUnreserved_9 : decode cX11_isUnreserved 9 = .ok (.if_icmp .le 51, 3) := by decide +kernel
theorem dX11_isUnreserved_12 : decode cX11_isUnreserved 12 = .ok (.iload_n 0, 1) := by decide +kernel
theorem dX11_isUnreserved_13 : decode cX11_isUnreserved 13 = .ok (.bipush 97, 2) := by decide +kernel
theorem dX11_isUnreserved_15 : decode cX11_isUnreserved 15 = .ok (.if_icmp .lt 9, 3) := by decide +kernel
theorem dX11_isUnreserved_18 : decode cX11_isUnreserved 18 = .ok (.iload_n 0, 1) := by decide +kernel
theorem dX11_isUnreserved_19 : decode cX11_isUnreserved 19 = .ok (.bipush 122, 2) := by decide +kernel
theorem dX11_isUnreserved_21 : decode cX11_isUnreserved 21 = .ok (.if_icmp .le 39, 3) := by decide +kernel
theorem dX11_isUnreserved_24 : decode cX11_isUnreserved 24 = .ok (.iload_n 0, 1) := by decide +kernel
theorem dX11_isUnreserved_25 : decode cX11_isUnreserved 25 = .ok (.bipush 48, 2) := by decide +kernel
theorem dX11_isUnreserved_27 : decode cX11_isUnreserved 27 = .ok (.if_icmp .lt 9, 3) := by decide +kernel
theorem dX11_isUnreserved_30 : decode cX11_isUnreserved 30 = .ok (.iload_n 0, 1) := by decide +kernel
theorem dX11_isUnreserved_31 : decode cX11_isUnreserved 31 = .ok (.bipush 57, 2) := by decide +kernel
theorem dX11_isUnreserved_33 : decode cX11_isUnreserved 33 = .ok (.if_icmp .le 27, 3) := by decide +kernel
theorem dX11_isUnreserved_36 : decode cX11_isUnreserved 36 = .ok (.iload_n 0, 1) := by decide +kernel
theorem dX11_isUnreserved_37 : decode cX11_isUnreserved 37 = .ok (.bipush 45, 2) := by decide +kernel
theorem dX11_isUnreserved_39 : decode cX11_isUnreserved 39 = .ok (.if_icmp .eq 21, 3) := by decide +kernel
theorem dX11_isUnreserved_42 : decode cX11_isUnreserved 42 = .ok (.iload_n 0, 1) := by decide +kernel
theorem dX11_isUnreserved_43 : decode cX11_isUnreserved 43 = .ok (.bipush 46, 2) := by decide +kernel
theorem dX11_isUnreserved_45 : decode cX11_isUnreserved 45 = .ok (.if_icmp .eq 15, 3) := by decide +kernel
theorem dX11_isUnreserved_48 : decode cX11_isUnreserved 48 = .ok (.iload_n 0, 1) := by decide +kernel
theorem dX11_isUnreserved_49 : decode cX11_isUnreserved 49 = .ok (.bipush 95, 2) := by decide +kernel
theorem dX11_isUnreserved_51 : decode cX11_isUnreserved 51 = .ok (.if_icmp .eq 9, 3) := by decide +kernel
theorem dX11_isUnreserved_54 : decode cX11_isUnreserved 54 = .ok (.iload_n 0, 1) := by decide +kernel
theorem dX11_isUnreserved_55 : decode cX11_isUnreserved 55 = .ok (.bipush 126, 2) := by decide +kernel
theorem dX11_isUnreserved_57 : decode cX11_isUnreserved 57 = .ok (.if_icmp .ne 7, 3) := by decide +kernel
theorem dX11_isUnreserved_60 : decode cX11_isUnreserved 60 = .ok (.iconst 1, 1) := by decide +kernel
theorem dX11_isUnreserved_61 : decode cX11_isUnreserved 61 = .ok (.goto 4, 3) := by decide +kernel
theorem dX11_isUnreserved_64 : decode cX11_isUnreserved 64 = .ok (.iconst 0, 1) := by decide +kernel
theorem dX11_isUnreserved_65 : decode cX11_isUnreserved 65 = .ok (.ireturn, 1) := by decide +kernel
theorem dX11_hexDigit_0 : decode cX11_hexDigit 0 = .ok (.iload_n 0, 1) := by decide +kernel
theorem dX11_hexDigit_1 : decode cX11_hexDigit 1 = .ok (.bipush 48, 2) := by decide +kernel
theorem dX11_hexDigit_3 : decode cX11_hexDigit 3 = .ok (.if_icmp .lt 14, 3) := by decide +kernel
theorem dX11_hexDigit_6 : decode cX11_hexDigit 6 = .ok (.iload_n 0, 1) := by decide +kernel
theorem dX11_hexDigit_7 : decode cX11_hexDigit 7 = .ok (.bipush 57, 2) := by decide +kernel
theorem dX11_hexDigit_9 : decode cX11_hexDigit 9 = .ok (.if_icmp .gt 8, 3) := by decide +kernel
theorem dX11_hexDigit_12 : decode cX11_hexDigit 12 = .ok (.iload_n 0, 1) := by decide +kernel
theorem dX11_hexDigit_13 : decode cX11_hexDigit 13 = .ok (.bipush 48, 2) := by decide +kernel
theorem dX11_hexDigit_15 : decode cX11_hexDigit 15 = .ok (.isub, 1) := by decide +kernel
theorem dX11_hexDigit_16 : decode cX11_hexDigit 16 = .ok (.ireturn, 1) := by decide +kernel
theorem dX11_hexDigit_17 : decode cX11_hexDigit 17 = .ok (.iload_n 0, 1) := by decide +kernel
theorem dX11_hexDigit_18 : decode cX11_hexDigit 18 = .ok (.bipush 65, 2) := by decide +kernel
theorem dX11_hexDigit_20 : decode cX11_hexDigit 20 = .ok (.if_icmp .lt 17, 3) := by decide +kernel
theorem dX11_hexDigit_23 : decode cX11_hexDigit 23 = .ok (.iload_n 0, 1) := by decide +kernel
theorem dX11_hexDigit_24 : decode cX11_hexDigit 24 = .ok (.bipush 70, 2) := by decide +kernel
theorem dX11_hexDigit_26 : decode cX11_hexDigit 26 = .ok (.if_icmp .gt 11, 3) := by decide +kernel
theorem dX11_hexDigit_29 : decode cX11_hexDigit 29 = .ok (.iload_n 0, 1) := by decide +kernel
theorem dX11_hexDigit_30 : decode cX11_hexDigit 30 = .ok (.bipush 65, 2) := by decide +kernel
theorem dX11_hexDigit_32 : decode cX11_hexDigit 32 = .ok (.isub, 1) := by decide +kernel
theorem dX11_hexDigit_33 : decode cX11_hexDigit 33 = .ok (.bipush 10, 2) := by decide +kernel
theorem dX11_hexDigit_35 : decode cX11_hexDigit 35 = .ok (.iadd, 1) := by decide +kernel
theorem dX11_hexDigit_36 : decode cX11_hexDigit 36 = .ok (.ireturn, 1) := by decide +kernel
theorem dX11_hexDigit_37 : decode cX11_hexDigit 37 = .ok (.iload_n 0, 1) := by decide +kernel
theorem dX11_hexDigit_38 : decode cX11_hexDigit 38 = .ok (.bipush 97, 2) := by decide +kernel
theorem dX11_hexDigit_40 : decode cX11_hexDigit 40 = .ok (.if_icmp .lt 19, 3) := by decide +kernel
theorem dX11_hexDigit_43 : decode cX11_hexDigit 43 = .ok (.iload_n 0, 1) := by decide +kernel
theorem dX11_hexDigit_44 : decode cX11_hexDigit 44 = .ok (.bipush 102, 2) := by decide +kernel
theorem dX11_hexDigit_46 : decode cX11_hexDigit 46 = .ok (.if_icmp .gt 13, 3) := by decide +kernel
theorem dX11_hexDigit_49 : decode cX11_hexDigit 49 = .ok (.iload_n 0, 1) := by decide +kernel
theorem dX11_hexDigit_50 : decode cX11_hexDigit 50 = .ok (.bipush 97, 2) := by decide +kernel
theorem dX11_hexDigit_52 : decode cX11_hexDigit 52 = .ok (.isub, 1) := by decide +kernel
theorem dX11_hexDigit_53 : decode cX11_hexDigit 53 = .ok (.bipush 10, 2) := by decide +kernel
theorem dX11_hexDigit_55 : decode cX11_hexDigit 55 = .ok (.iadd, 1) := by decide +kernel
theorem dX11_hexDigit_56 : decode cX11_hexDigit 56 = .ok (.goto 4, 3) := by decide +kernel
theorem dX11_hexDigit_59 : decode cX11_hexDigit 59 = .ok (.iconst (-1), 1) := by decide +kernel
theorem dX11_hexDigit_60 : decode cX11_hexDigit 60 = .ok (.ireturn, 1) := by decide +kernel
