theorem dX3_light_6 : decode cX3_light 6 = .ok (.if_icmp .ge 5, 3) := by decide +kernel
theorem dX3_light_9 : decode cX3_light 9 = .ok (.iconst 0, 1) := by decide +kernel
theorem dX3_light_10 : decode cX3_light 10 = .ok (.ireturn, 1) := by decide +kernel
theorem dX3_light_11 : decode cX3_light 11 = .ok (.aload_n 0, 1) := by decide +kernel
theorem dX3_light_12 : decode cX3_light 12 = .ok (.dup, 1) := by decide +kernel
theorem dX3_light_13 : decode cX3_light 13 = .ok (.getfield 33, 3) := by decide +kernel
theorem dX3_light_16 : decode cX3_light 16 = .ok (.bipush 12, 2) := by decide +kernel
theorem dX3_light_18 : decode cX3_light 18 = .ok (.isub, 1) := by decide +kernel
theorem dX3_light_19 : decode cX3_light 19 = .ok (.putfield 33, 3) := by decide +kernel
theorem dX3_light_22 : decode cX3_light 22 = .ok (.aload_n 1, 1) := by decide +kernel
theorem dX3_light_23 : decode cX3_light 23 = .ok (.iconst 4, 1) := by decide +kernel
theorem dX3_light_24 : decode cX3_light 24 = .ok (.bipush 12, 2) := by decide +kernel
theorem dX3_light_26 : decode cX3_light 26 = .ok (.iastore, 1) := by decide +kernel
theorem dX3_light_27 : decode cX3_light 27 = .ok (.iconst 1, 1) := by decide +kernel
theorem dX3_light_28 : decode cX3_light 28 = .ok (.ireturn, 1) := by decide +kernel
theorem dX3_ends_0 : decode cX3_ends 0 = .ok (.aload_n 0, 1) := by decide +kernel
theorem dX3_ends_1 : decode cX3_ends 1 = .ok (.iload_n 1, 1) := by decide +kernel
theorem dX3_ends_2 : decode cX3_ends 2 = .ok (.bipush 99, 2) := by decide +kernel
theorem dX3_ends_4 : decode cX3_ends 4 = .ok (.invokevirtual 51, 3) := by decide +kernel
theorem dX3_ends_7 : decode cX3_ends 7 = .ok (.aload_n 0, 1) := by decide +kernel
theorem dX3_ends_8 : decode cX3_ends 8 = .ok (.getfield 9, 3) := by decide +kernel
theorem dX3_ends_11 : decode cX3_ends 11 = .ok (.iload_n 1, 1) := by decide +kernel
theorem dX3_ends_12 : decode cX3_ends 12 = .ok (.aaload, 1) := by decide +kernel
theorem dX3_ends_13 : decode cX3_ends 13 = .ok (.iconst 3, 1) := by decide +kernel
theorem dX3_ends_14 : decode cX3_ends 14 = .ok (.iconst 0, 1) := by decide +kernel
theorem dX3_ends_15 : decode cX3_ends 15 = .ok (.iastore, 1) := by decide +kernel
theorem dX3_ends_16 : decode cX3_ends 16 = .ok (.aload_n 0, 1) := by decide +kernel
theorem dX3_ends_17 : decode cX3_ends 17 = .ok (.getfield 15, 3) := by decide +kernel
theorem dX3_ends_20 : decode cX3_ends 20 = .ok (.astore_n 2, 1) := by decide +kernel
theorem dX3_ends_21 : decode cX3_ends 21 = .ok (.aload_n 2, 1) := by decide +kernel
theorem dX3_ends_22 : decode cX3_ends 22 = .ok (.arraylength, 1) := by decide +kernel
theorem dX3_ends_23 : decode cX3_ends 23 = .ok (.istore_n 3, 1) := by decide +kernel
theorem dX3_ends_24 : decode cX3_ends 24 = .ok (.iconst 0, 1) := by decide +kernel
theorem dX3_ends_25 : decode cX3_ends 25 = .ok (.istore 4, 2) := by decide +kernel
theorem dX3_ends_27 : decode cX3_ends 27 = .ok (.iload 4, 2) := by decide +kernel
theorem dX3_ends_29 : decode cX3_ends 29 = .ok (.iload_n 3, 1) := by decide +kernel
theorem dX3_ends_30 : decode cX3_ends 30 = .ok (.if_icmp .ge 44, 3) := by decide +kernel
theorem dX3_ends_33 : decode cX3_ends 33 = .ok (.aload_n 2, 1) := by decide +kernel
theorem dX3_ends_34 : decode cX3_ends 34 = .ok (.iload 4, 2) := by decide +kernel
theorem dX3_ends_36 : decode cX3_ends 36 = .ok (.aaload, 1) := by decide +kernel
theorem dX3_ends_37 : decode cX3_ends 37 = .ok (.astore 5, 2) := by decide +kernel
theorem dX3_ends_39 : decode cX3_ends 39 = .ok (.aload 5, 2) := by decide +kernel
theorem dX3_ends_41 : decode cX3_ends 41 = .ok (.iconst 0, 1) := by decide +kernel
theorem dX3_ends_42 : decode cX3_ends 42 = .ok (.iaload, 1) := by decide +kernel
theorem dX3_ends_43 : decode cX3_ends 43 = .ok (.iload_n 1, 1) := by decide +kernel
theorem dX3_ends_44 : decode cX3_ends 44 = .ok (.if_icmp .eq 6, 3) := by decide +kernel
theorem dX3_ends_47 : decode cX3_ends 47 = .ok (.goto 21, 3) := by decide +kernel
theorem dX3_ends_50 : decode cX3_ends 50 = .ok (.aload_n 0, 1) := by decide +kernel
theorem dX3_ends_51 : decode cX3_ends 51 = .ok (.dup, 1) := by decide +kernel
theorem dX3_ends_52 : decode cX3_ends 52 = .ok (.getfield 33, 3) := by decide +kernel
theorem dX3_ends_55 : decode cX3_ends 55 = .ok (.aload 5, 2) := by decide +kernel
theorem dX3_ends_57 : decode cX3_ends 57 = .ok (.iconst 4, 1) := by decide +kernel
theorem dX3_ends_58 : decode cX3_ends 58 = .ok (.iaload, 1) := by decide +kernel
theorem dX3_ends_59 : decode cX3_ends 59 = .ok (.iadd, 1) := by decide +kernel
theorem dX3_ends_60 : decode cX3_ends 60 = .ok (.putfield 33, 3) := by decide +kernel
theorem dX3_ends_63 : decode cX3_ends 63 = .ok (.aload 5, 2) := by decide +kernel
theorem dX3_ends_65 : decode cX3_ends 65 = .ok (.iconst 4, 1) := by decide +kernel
theorem dX3_ends_66 : decode cX3_ends 66 = .ok (.iconst 0, 1) := by decide +kernel
theorem dX3_ends_67 : decode cX3_ends 67 = .ok (.iastore, 1) := by decide +kernel
theorem dX3_ends_68 : decode cX3_ends 68 = .ok (.iinc 4 1, 3) := by decide +kernel
theorem dX3_ends_71 : decode cX3_ends 71 = .ok (.goto (-44), 3) := by decide +kernel
theorem dX3_ends_74 : decode cX3_ends 74 = .ok (.return_, 1) := by decide +kernel
theorem dJ9_max_7cf53_0 : decode cJ9_max_7cf53 0 = .ok (.iload_n 0, 1) := by decide +kernel
theorem dJ9_max_7cf53_1 : decode cJ9_max_7cf53 1 = .ok (.iload_n 1, 1) := by decide +kernel
theorem dJ9_max_7cf53_2 : decode cJ9_max_7cf53 2 = .ok (.if_icmp .lt 7, 3) := by decide +kernel
theorem dJ9_max_7cf53_5 : decode cJ9_max_7cf53 5 = .ok (.iload_n 0, 1) := by decide +kernel
theorem dJ9_max_7cf53_6 : decode cJ9_max_7cf53 6 = .ok (.goto 4, 3) := by decide +kernel
theorem dJ9_max_7cf53_9 : decode cJ9_max_7cf53 9 = .ok (.iload_n 1, 1) := by decide +kernel
theorem dJ9_max_7cf53_10 : decode cJ9_max_7cf53 10 = .ok (.ireturn, 1) := by decide +kernel
theorem dJ9_min_7cf53_0 : decode cJ9_min_7cf53 0 = .ok (.iload_n 0, 1) := by decide +kernel
theorem dJ9_min_7cf53_1 : decode cJ9_min_7cf53 1 = .ok (.iload_n 1, 1) := by decide +kernel
theorem dJ9_min_7cf53_2 : decode cJ9_min_7cf53 2 = .ok (.if_icmp .gt 7, 3) := by decide +kernel
theorem dJ9_min_7cf53_5 : decode cJ9_min_7cf53 5 = .ok (.iload_n 0, 1) := by decide +kernel
theorem dJ9_min_7cf53_6 : decode cJ9_min_7cf53 6 = .ok (.goto 4, 3) := by decide +kernel
theorem dJ9_min_7cf53_9 : decode cJ9_min_7cf53 9 = .ok (.iload_n 1, 1) := by decide +kernel
theorem dJ9_min_7cf53_10 : decode cJ9_min_7cf53 10 = .ok (.ireturn, 1) := by decide +kernel
theorem dL_below_0 : decode cL_below 0 = .ok (.iload_n 0, 1) := by decide +kernel
theorem dL_below_1 : decode cL_below 1 = .ok (.ldc 7, 2) := by decide +kernel
theorem dL_below_3 : decode cL_below 3 = .ok (.iand, 1) := by decide +kernel
theorem dL_below_4 : decode cL_below 4 = .ok (.iload_n 1, 1) := by decide +kernel
theorem dL_below_5 : decode cL_below 5 = .ok (.irem, 1) := by decide +kernel
theorem dL_below_6 : decode cL_below 6 = .ok (.ireturn, 1) := by decide +kernel
theorem dL_cell_0 : decode cL_cell 0 = .ok (.iload_n 1, 1) := by decide +kernel
theorem dL_cell_1 : decode cL_cell 1 = .ok (.aload_n 0, 1) := by decide +kernel
theorem dL_cell_2 : decode cL_cell 2 = .ok (.arraylength, 1) := by decide +kernel
theorem dL_cell_3 : decode cL_cell 3 = .ok (.if_icmp .ge 9, 3) := by decide +kernel
theorem dL_cell_6 : decode cL_cell 6 = .ok (.aload_n 0, 1) := by decide +kernel
theorem dL_cell_7 : decode cL_cell 7 = .ok (.iload_n 1, 1) := by decide +kernel
theorem dL_cell_8 : decode cL_cell 8 = .ok (.iaload, 1) := by decide +kernel
theorem dL_cell_9 : decode cL_cell 9 = .ok (.goto 9, 3) := by decide +kernel
theorem dL_cell_12 : decode cL_cell 12 = .ok (.ldc 8, 2) := by decide +kernel
theorem dL_cell_14 : decode cL_cell 14 = .ok (.iload_n 1, 1) := by decide +kernel
theorem dL_cell_15 : decode cL_cell 15 = .ok (.iconst 3, 1) := by decide +kernel
theorem dL_cell_16 : decode cL_cell 16 = .ok (.iadd, 1) := by decide +kernel
theorem dL_cell_17 : decode cL_cell 17 = .ok (.imul, 1) := by decide +kernel
theorem dL_cell_18 : decode cL_cell 18 = .ok (.ireturn, 1) := by decide +kernel
