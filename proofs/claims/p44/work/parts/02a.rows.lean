theorem dX0_init_0 : decode cX0_init 0 = .ok (.aload_n 0, 1) := by decide +kernel
theorem dX0_init_1 : decode cX0_init 1 = .ok (.invokespecial 3, 3) := by decide +kernel
theorem dX0_init_4 : decode cX0_init 4 = .ok (.aload_n 0, 1) := by decide +kernel
theorem dX0_init_5 : decode cX0_init 5 = .ok (.iconst 5, 1) := by decide +kernel
theorem dX0_init_6 : decode cX0_init 6 = .ok (.newarray .int, 2) := by decide +kernel
theorem dX0_init_8 : decode cX0_init 8 = .ok (.putfield 9, 3) := by decide +kernel
theorem dX0_init_11 : decode cX0_init 11 = .ok (.aload_n 0, 1) := by decide +kernel
theorem dX0_init_12 : decode cX0_init 12 = .ok (.iconst 5, 1) := by decide +kernel
theorem dX0_init_13 : decode cX0_init 13 = .ok (.newarray .int, 2) := by decide +kernel
theorem dX0_init_15 : decode cX0_init 15 = .ok (.putfield 15, 3) := by decide +kernel
theorem dX0_init_18 : decode cX0_init 18 = .ok (.aload_n 0, 1) := by decide +kernel
theorem dX0_init_19 : decode cX0_init 19 = .ok (.iconst 5, 1) := by decide +kernel
theorem dX0_init_20 : decode cX0_init 20 = .ok (.newarray .boolean, 2) := by decide +kernel
theorem dX0_init_22 : decode cX0_init 22 = .ok (.putfield 18, 3) := by decide +kernel
theorem dX0_init_25 : decode cX0_init 25 = .ok (.aload_n 0, 1) := by decide +kernel
theorem dX0_init_26 : decode cX0_init 26 = .ok (.bipush 16, 2) := by decide +kernel
theorem dX0_init_28 : decode cX0_init 28 = .ok (.newarray .int, 2) := by decide +kernel
theorem dX0_init_30 : decode cX0_init 30 = .ok (.putfield 22, 3) := by decide +kernel
theorem dX0_init_33 : decode cX0_init 33 = .ok (.aload_n 0, 1) := by decide +kernel
theorem dX0_init_34 : decode cX0_init 34 = .ok (.iconst 4, 1) := by decide +kernel
theorem dX0_init_35 : decode cX0_init 35 = .ok (.newarray .int, 2) := by decide +kernel
theorem dX0_init_37 : decode cX0_init 37 = .ok (.putfield 25, 3) := by decide +kernel
theorem dX0_init_40 : decode cX0_init 40 = .ok (.aload_n 0, 1) := by decide +kernel
theorem dX0_init_41 : decode cX0_init 41 = .ok (.bipush 20, 2) := by decide +kernel
theorem dX0_init_43 : decode cX0_init 43 = .ok (.newarray .int, 2) := by decide +kernel
theorem dX0_init_45 : decode cX0_init 45 = .ok (.putfield 28, 3) := by decide +kernel
theorem dX0_init_48 : decode cX0_init 48 = .ok (.aload_n 0, 1) := by decide +kernel
theorem dX0_init_49 : decode cX0_init 49 = .ok (.aload_n 1, 1) := by decide +kernel
theorem dX0_init_50 : decode cX0_init 50 = .ok (.putfield 31, 3) := by decide +kernel
theorem dX0_init_53 : decode cX0_init 53 = .ok (.iconst 0, 1) := by decide +kernel
theorem dX0_init_54 : decode cX0_init 54 = .ok (.istore_n 2, 1) := by decide +kernel
theorem dX0_init_55 : decode cX0_init 55 = .ok (.iload_n 2, 1) := by decide +kernel
theorem dX0_init_56 : decode cX0_init 56 = .ok (.aload_n 0, 1) := by decide +kernel
theorem dX0_init_57 : decode cX0_init 57 = .ok (.getfield 28, 3) := by decide +kernel
theorem dX0_init_60 : decode cX0_init 60 = .ok (.arraylength, 1) := by decide +kernel
theorem dX0_init_61 : decode cX0_init 61 = .ok (.if_icmp .ge 16, 3) := by decide +kernel
theorem dX0_init_64 : decode cX0_init 64 = .ok (.aload_n 0, 1) := by decide +kernel
theorem dX0_init_65 : decode cX0_init 65 = .ok (.getfield 28, 3) := by decide +kernel
theorem dX0_init_68 : decode cX0_init 68 = .ok (.iload_n 2, 1) := by decide +kernel
theorem dX0_init_69 : decode cX0_init 69 = .ok (.iconst (-1), 1) := by decide +kernel
theorem dX0_init_70 : decode cX0_init 70 = .ok (.iastore, 1) := by decide +kernel
theorem dX0_init_71 : decode cX0_init 71 = .ok (.iinc 2 1, 3) := by decide +kernel
theorem dX0_init_74 : decode cX0_init 74 = .ok (.goto (-19), 3) := by decide +kernel
theorem dX0_init_77 : decode cX0_init 77 = .ok (.return_, 1) := by decide +kernel
theorem dX0_copyFrom_0 : decode cX0_copyFrom 0 = .ok (.aload_n 1, 1) := by decide +kernel
theorem dX0_copyFrom_1 : decode cX0_copyFrom 1 = .ok (.getfield 9, 3) := by decide +kernel
theorem dX0_copyFrom_4 : decode cX0_copyFrom 4 = .ok (.aload_n 0, 1) := by decide +kernel
theorem dX0_copyFrom_5 : decode cX0_copyFrom 5 = .ok (.getfield 9, 3) := by decide +kernel
theorem dX0_copyFrom_8 : decode cX0_copyFrom 8 = .ok (.invokestatic 35, 3) := by decide +kernel
theorem dX0_copyFrom_11 : decode cX0_copyFrom 11 = .ok (.aload_n 1, 1) := by decide +kernel
theorem dX0_copyFrom_12 : decode cX0_copyFrom 12 = .ok (.getfield 15, 3) := by decide +kernel
theorem dX0_copyFrom_15 : decode cX0_copyFrom 15 = .ok (.aload_n 0, 1) := by decide +kernel
theorem dX0_copyFrom_16 : decode cX0_copyFrom 16 = .ok (.getfield 15, 3) := by decide +kernel
theorem dX0_copyFrom_19 : decode cX0_copyFrom 19 = .ok (.invokestatic 35, 3) := by decide +kernel
theorem dX0_copyFrom_22 : decode cX0_copyFrom 22 = .ok (.aload_n 1, 1) := by decide +kernel
theorem dX0_copyFrom_23 : decode cX0_copyFrom 23 = .ok (.getfield 18, 3) := by decide +kernel
theorem dX0_copyFrom_26 : decode cX0_copyFrom 26 = .ok (.aload_n 0, 1) := by decide +kernel
theorem dX0_copyFrom_27 : decode cX0_copyFrom 27 = .ok (.getfield 18, 3) := by decide +kernel
theorem dX0_copyFrom_30 : decode cX0_copyFrom 30 = .ok (.invokestatic 39, 3) := by decide +kernel
theorem dX0_copyFrom_33 : decode cX0_copyFrom 33 = .ok (.aload_n 1, 1) := by decide +kernel
theorem dX0_copyFrom_34 : decode cX0_copyFrom 34 = .ok (.getfield 22, 3) := by decide +kernel
theorem dX0_copyFrom_37 : decode cX0_copyFrom 37 = .ok (.aload_n 0, 1) := by decide +kernel
theorem dX0_copyFrom_38 : decode cX0_copyFrom 38 = .ok (.getfield 22, 3) := by decide +kernel
theorem dX0_copyFrom_41 : decode cX0_copyFrom 41 = .ok (.invokestatic 35, 3) := by decide +kernel
theorem dX0_copyFrom_44 : decode cX0_copyFrom 44 = .ok (.aload_n 1, 1) := by decide +kernel
theorem dX0_copyFrom_45 : decode cX0_copyFrom 45 = .ok (.getfield 25, 3) := by decide +kernel
theorem dX0_copyFrom_48 : decode cX0_copyFrom 48 = .ok (.aload_n 0, 1) := by decide +kernel
theorem dX0_copyFrom_49 : decode cX0_copyFrom 49 = .ok (.getfield 25, 3) := by decide +kernel
theorem dX0_copyFrom_52 : decode cX0_copyFrom 52 = .ok (.invokestatic 35, 3) := by decide +kernel
theorem dX0_copyFrom_55 : decode cX0_copyFrom 55 = .ok (.aload_n 1, 1) := by decide +kernel
theorem dX0_copyFrom_56 : decode cX0_copyFrom 56 = .ok (.getfield 28, 3) := by decide +kernel
theorem dX0_copyFrom_59 : decode cX0_copyFrom 59 = .ok (.aload_n 0, 1) := by decide +kernel
theorem dX0_copyFrom_60 : decode cX0_copyFrom 60 = .ok (.getfield 28, 3) := by decide +kernel
theorem dX0_copyFrom_63 : decode cX0_copyFrom 63 = .ok (.invokestatic 35, 3) := by decide +kernel
theorem dX0_copyFrom_66 : decode cX0_copyFrom 66 = .ok (.aload_n 0, 1) := by decide +kernel
theorem dX0_copyFrom_67 : decode cX0_copyFrom 67 = .ok (.aload_n 1, 1) := by decide +kernel
theorem dX0_copyFrom_68 : decode cX0_copyFrom 68 = .ok (.getfield 43, 3) := by decide +kernel
theorem dX0_copyFrom_71 : decode cX0_copyFrom 71 = .ok (.putfield 43, 3) := by decide +kernel
theorem dX0_copyFrom_74 : decode cX0_copyFrom 74 = .ok (.aload_n 0, 1) := by decide +kernel
theorem dX0_copyFrom_75 : decode cX0_copyFrom 75 = .ok (.aload_n 1, 1) := by decide +kernel
theorem dX0_copyFrom_76 : decode cX0_copyFrom 76 = .ok (.getfield 47, 3) := by decide +kernel
theorem dX0_copyFrom_79 : decode cX0_copyFrom 79 = .ok (.putfield 47, 3) := by decide +kernel
theorem dX0_copyFrom_82 : decode cX0_copyFrom 82 = .ok (.aload_n 0, 1) := by decide +kernel
theorem dX0_copyFrom_83 : decode cX0_copyFrom 83 = .ok (.aload_n 1, 1) := by decide +kernel
theorem dX0_copyFrom_84 : decode cX0_copyFrom 84 = .ok (.getfield 50, 3) := by decide +kernel
theorem dX0_copyFrom_87 : decode cX0_copyFrom 87 = .ok (.putfield 50, 3) := by decide +kernel
theorem dX0_copyFrom_90 : decode cX0_copyFrom 90 = .ok (.return_, 1) := by decide +kernel
theorem dX0_stayOf_0 : decode cX0_stayOf 0 = .ok (.aload_n 0, 1) := by decide +kernel
theorem dX0_stayOf_1 : decode cX0_stayOf 1 = .ok (.getfield 9, 3) := by decide +kernel
theorem dX0_stayOf_4 : decode cX0_stayOf 4 = .ok (.iload_n 1, 1) := by decide +kernel
theorem dX0_stayOf_5 : decode cX0_stayOf 5 = .ok (.invokestatic 53, 3) := by decide +kernel
theorem dX0_stayOf_8 : decode cX0_stayOf 8 = .ok (.ireturn, 1) := by decide +kernel
theorem dX0_sendOut_0 : decode cX0_sendOut 0 = .ok (.aload_n 0, 1) := by decide +kernel
theorem dX0_sendOut_1 : decode cX0_sendOut 1 = .ok (.getfield 9, 3) := by decide +kernel
theorem dX0_sendOut_4 : decode cX0_sendOut 4 = .ok (.iload_n 1, 1) := by decide +kernel
theorem dX0_sendOut_5 : decode cX0_sendOut 5 = .ok (.iconst 1, 1) := by decide +kernel
theorem dX0_sendOut_6 : decode cX0_sendOut 6 = .ok (.invokestatic 57, 3) := by decide +kernel
theorem dX0_sendOut_9 : decode cX0_sendOut 9 = .ok (.aload_n 0, 1) := by decide +kernel
theorem dX0_sendOut_10 : decode cX0_sendOut 10 = .ok (.getfield 15, 3) := by decide +kernel
theorem dX0_sendOut_13 : decode cX0_sendOut 13 = .ok (.iload_n 1, 1) := by decide +kernel
theorem dX0_sendOut_14 : decode cX0_sendOut 14 = .ok (.iconst 0, 1) := by decide +kernel
theorem dX0_sendOut_15 : decode cX0_sendOut 15 = .ok (.invokestatic 57, 3) := by decide +kernel
theorem dX0_sendOut_18 : decode cX0_sendOut 18 = .ok (.iconst 0, 1) := by decide +kernel
theorem dX0_sendOut_19 : decode cX0_sendOut 19 = .ok (.istore_n 2, 1) := by decide +kernel
theorem dX0_sendOut_20 : decode cX0_sendOut 20 = .ok (.iconst 0, 1) := by decide +kernel
theorem dX0_sendOut_21 : decode cX0_sendOut 21 = .ok (.istore_n 3, 1) := by decide +kernel
theorem dX0_sendOut_22 : decode cX0_sendOut 22 = .ok (.iload_n 3, 1) := by decide +kernel
theorem dX0_sendOut_23 : decode cX0_sendOut 23 = .ok (.bipush 16, 2) := by decide +kernel
theorem dX0_sendOut_25 : decode cX0_sendOut 25 = .ok (.if_icmp .ge 32, 3) := by decide +kernel
theorem dX0_sendOut_28 : decode cX0_sendOut 28 = .ok (.aload_n 0, 1) := by decide +kernel
theorem dX0_sendOut_29 : decode cX0_sendOut 29 = .ok (.getfield 31, 3) := by decide +kernel
theorem dX0_sendOut_32 : decode cX0_sendOut 32 = .ok (.iload_n 3, 1) := by decide +kernel
theorem dX0_sendOut_33 : decode cX0_sendOut 33 = .ok (.invokevirtual 61, 3) := by decide +kernel
theorem dX0_sendOut_36 : decode cX0_sendOut 36 = .ok (.iload_n 1, 1) := by decide +kernel
theorem dX0_sendOut_37 : decode cX0_sendOut 37 = .ok (.if_icmp .ne 14, 3) := by decide +kernel
theorem dX0_sendOut_40 : decode cX0_sendOut 40 = .ok (.aload_n 0, 1) := by decide +kernel
theorem dX0_sendOut_41 : decode cX0_sendOut 41 = .ok (.iload_n 3, 1) := by decide +kernel
theorem dX0_sendOut_42 : decode cX0_sendOut 42 = .ok (.invokevirtual 67, 3) := by decide +kernel
theorem dX0_sendOut_45 : decode cX0_sendOut 45 = .ok (.ifCond .eq 6, 3) := by decide +kernel
theorem dX0_sendOut_48 : decode cX0_sendOut 48 = .ok (.iinc 2 1, 3) := by decide +kernel
theorem dX0_sendOut_51 : decode cX0_sendOut 51 = .ok (.iinc 3 1, 3) := by decide +kernel
theorem dX0_sendOut_54 : decode cX0_sendOut 54 = .ok (.goto (-32), 3) := by decide +kernel
theorem dX0_sendOut_57 : decode cX0_sendOut 57 = .ok (.iload_n 2, 1) := by decide +kernel
theorem dX0_sendOut_58 : decode cX0_sendOut 58 = .ok (.ireturn, 1) := by decide +kernel
theorem dX0_endWaiting_0 : decode cX0_endWaiting 0 = .ok (.aload_n 0, 1) := by decide +kernel
theorem dX0_endWaiting_1 : decode cX0_endWaiting 1 = .ok (.getfield 9, 3) := by decide +kernel
theorem dX0_endWaiting_4 : decode cX0_endWaiting 4 = .ok (.iload_n 1, 1) := by decide +kernel
theorem dX0_endWaiting_5 : decode cX0_endWaiting 5 = .ok (.iload_n 2, 1) := by decide +kernel
theorem dX0_endWaiting_6 : decode cX0_endWaiting 6 = .ok (.invokestatic 57, 3) := by decide +kernel
theorem dX0_endWaiting_9 : decode cX0_endWaiting 9 = .ok (.aload_n 0, 1) := by decide +kernel
theorem dX0_endWaiting_10 : decode cX0_endWaiting 10 = .ok (.getfield 18, 3) := by decide +kernel
theorem dX0_endWaiting_13 : decode cX0_endWaiting 13 = .ok (.iload_n 1, 1) := by decide +kernel
theorem dX0_endWaiting_14 : decode cX0_endWaiting 14 = .ok (.iconst 0, 1) := by decide +kernel
theorem dX0_endWaiting_15 : decode cX0_endWaiting 15 = .ok (.invokestatic 71, 3) := by decide +kernel
theorem dX0_endWaiting_18 : decode cX0_endWaiting 18 = .ok (.iconst 0, 1) := by decide +kernel
theorem dX0_endWaiting_19 : decode cX0_endWaiting 19 = .ok (.istore_n 3, 1) := by decide +kernel
theorem dX0_endWaiting_20 : decode cX0_endWaiting 20 = .ok (.iload_n 3, 1) := by decide +kernel
theorem dX0_endWaiting_21 : decode cX0_endWaiting 21 = .ok (.iconst 4, 1) := by decide +kernel
theorem dX0_endWaiting_22 : decode cX0_endWaiting 22 = .ok (.if_icmp .ge 22, 3) := by decide +kernel
theorem dX0_endWaiting_25 : decode cX0_endWaiting 25 = .ok (.aload_n 0, 1) := by decide +kernel
theorem dX0_endWaiting_26 : decode cX0_endWaiting 26 = .ok (.getfield 28, 3) := by decide +kernel
theorem dX0_endWaiting_29 : decode cX0_endWaiting 29 = .ok (.iload_n 3, 1) := by decide +kernel
theorem dX0_endWaiting_30 : decode cX0_endWaiting 30 = .ok (.iload_n 1, 1) := by decide +kernel
theorem dX0_endWaiting_31 : decode cX0_endWaiting 31 = .ok (.invokestatic 75, 3) := by decide +kernel
theorem dX0_endWaiting_34 : decode cX0_endWaiting 34 = .ok (.iconst (-1), 1) := by decide +kernel
theorem dX0_endWaiting_35 : decode cX0_endWaiting 35 = .ok (.invokestatic 57, 3) := by decide +kernel
theorem dX0_endWaiting_38 : decode cX0_endWaiting 38 = .ok (.iinc 3 1, 3) := by decide +kernel
theorem dX0_endWaiting_41 : decode cX0_endWaiting 41 = .ok (.goto (-21), 3) := by decide +kernel
theorem dX0_endWaiting_44 : decode cX0_endWaiting 44 = .ok (.iconst 0, 1) := by decide +kernel
theorem dX0_endWaiting_45 : decode cX0_endWaiting 45 = .ok (.istore_n 3, 1) := by decide +kernel
theorem dX0_endWaiting_46 : decode cX0_endWaiting 46 = .ok (.iload_n 3, 1) := by decide +kernel
theorem dX0_endWaiting_47 : decode cX0_endWaiting 47 = .ok (.bipush 16, 2) := by decide +kernel
theorem dX0_endWaiting_49 : decode cX0_endWaiting 49 = .ok (.if_icmp .ge 47, 3) := by decide +kernel
theorem dX0_endWaiting_52 : decode cX0_endWaiting 52 = .ok (.aload_n 0, 1) := by decide +kernel
theorem dX0_endWaiting_53 : decode cX0_endWaiting 53 = .ok (.getfield 31, 3) := by decide +kernel
theorem dX0_endWaiting_56 : decode cX0_endWaiting 56 = .ok (.iload_n 3, 1) := by decide +kernel
theorem dX0_endWaiting_57 : decode cX0_endWaiting 57 = .ok (.invokevirtual 61, 3) := by decide +kernel
theorem dX0_endWaiting_60 : decode cX0_endWaiting 60 = .ok (.iload_n 1, 1) := by decide +kernel
theorem dX0_endWaiting_61 : decode cX0_endWaiting 61 = .ok (.if_icmp .ne 29, 3) := by decide +kernel
theorem dX0_endWaiting_64 : decode cX0_endWaiting 64 = .ok (.aload_n 0, 1) := by decide +kernel
theorem dX0_endWaiting_65 : decode cX0_endWaiting 65 = .ok (.dup, 1) := by decide +kernel
theorem dX0_endWaiting_66 : decode cX0_endWaiting 66 = .ok (.getfield 47, 3) := by decide +kernel
theorem dX0_endWaiting_69 : decode cX0_endWaiting 69 = .ok (.aload_n 0, 1) := by decide +kernel
theorem dX0_endWaiting_70 : decode cX0_endWaiting 70 = .ok (.getfield 22, 3) := by decide +kernel
theorem dX0_endWaiting_73 : decode cX0_endWaiting 73 = .ok (.iload_n 3, 1) := by decide +kernel
theorem dX0_endWaiting_74 : decode cX0_endWaiting 74 = .ok (.invokestatic 53, 3) := by decide +kernel
theorem dX0_endWaiting_77 : decode cX0_endWaiting 77 = .ok (.iadd, 1) := by decide +kernel
theorem dX0_endWaiting_78 : decode cX0_endWaiting 78 = .ok (.putfield 47, 3) := by decide +kernel
theorem dX0_endWaiting_81 : decode cX0_endWaiting 81 = .ok (.aload_n 0, 1) := by decide +kernel
theorem dX0_endWaiting_82 : decode cX0_endWaiting 82 = .ok (.getfield 22, 3) := by decide +kernel
theorem dX0_endWaiting_85 : decode cX0_endWaiting 85 = .ok (.iload_n 3, 1) := by decide +kernel
theorem dX0_endWaiting_86 : decode cX0_endWaiting 86 = .ok (.iconst 0, 1) := by decide +kernel
theorem dX0_endWaiting_87 : decode cX0_endWaiting 87 = .ok (.invokestatic 57, 3) := by decide +kernel
theorem dX0_endWaiting_90 : decode cX0_endWaiting 90 = .ok (.iinc 3 1, 3) := by decide +kernel
theorem dX0_endWaiting_93 : decode cX0_endWaiting 93 = .ok (.goto (-47), 3) := by decide +kernel
theorem dX0_endWaiting_96 : decode cX0_endWaiting 96 = .ok (.return_, 1) := by decide +kernel
theorem dX0_lostSailors_0 : decode cX0_lostSailors 0 = .ok (.iconst 0, 1) := by decide +kernel
theorem dX0_lostSailors_1 : decode cX0_lostSailors 1 = .ok (.istore_n 1, 1) := by decide +kernel
theorem dX0_lostSailors_2 : decode cX0_lostSailors 2 = .ok (.iconst 0, 1) := by decide +kernel
theorem dX0_lostSailors_3 : decode cX0_lostSailors 3 = .ok (.istore_n 2, 1) := by decide +kernel
theorem dX0_lostSailors_4 : decode cX0_lostSailors 4 = .ok (.iload_n 2, 1) := by decide +kernel
theorem dX0_lostSailors_5 : decode cX0_lostSailors 5 = .ok (.bipush 16, 2) := by decide +kernel
theorem dX0_lostSailors_7 : decode cX0_lostSailors 7 = .ok (.if_icmp .ge 28, 3) := by decide +kernel
theorem dX0_lostSailors_10 : decode cX0_lostSailors 10 = .ok (.aload_n 0, 1) := by decide +kernel
theorem dX0_lostSailors_11 : decode cX0_lostSailors 11 = .ok (.aload_n 0, 1) := by decide +kernel
theorem dX0_lostSailors_12 : decode cX0_lostSailors 12 = .ok (.getfield 31, 3) := by decide +kernel
theorem dX0_lostSailors_15 : decode cX0_lostSailors 15 = .ok (.iload_n 2, 1) := by decide +kernel
theorem dX0_lostSailors_16 : decode cX0_lostSailors 16 = .ok (.invokevirtual 61, 3) := by decide +kernel
theorem dX0_lostSailors_19 : decode cX0_lostSailors 19 = .ok (.invokevirtual 79, 3) := by decide +kernel
theorem dX0_lostSailors_22 : decode cX0_lostSailors 22 = .ok (.iconst 2, 1) := by decide +kernel
theorem dX0_lostSailors_23 : decode cX0_lostSailors 23 = .ok (.if_icmp .ne 6, 3) := by decide +kernel
theorem dX0_lostSailors_26 : decode cX0_lostSailors 26 = .ok (.iinc 1 1, 3) := by decide +kernel
theorem dX0_lostSailors_29 : decode cX0_lostSailors 29 = .ok (.iinc 2 1, 3) := by decide +kernel
theorem dX0_lostSailors_32 : decode cX0_lostSailors 32 = .ok (.goto (-28), 3) := by decide +kernel
theorem dX0_lostSailors_35 : decode cX0_lostSailors 35 = .ok (.iload_n 1, 1) := by decide +kernel
theorem dX0_lostSailors_36 : decode cX0_lostSailors 36 = .ok (.ireturn, 1) := by decide +kernel
theorem dX0_hasSighting_0 : decode cX0_hasSighting 0 = .ok (.iload_n 1, 1) := by decide +kernel
theorem dX0_hasSighting_1 : decode cX0_hasSighting 1 = .ok (.iload_n 2, 1) := by decide +kernel
theorem dX0_hasSighting_2 : decode cX0_hasSighting 2 = .ok (.invokestatic 75, 3) := by decide +kernel
theorem dX0_hasSighting_5 : decode cX0_hasSighting 5 = .ok (.istore_n 3, 1) := by decide +kernel
theorem dX0_hasSighting_6 : decode cX0_hasSighting 6 = .ok (.iload_n 3, 1) := by decide +kernel
theorem dX0_hasSighting_7 : decode cX0_hasSighting 7 = .ok (.ifCond .lt 26, 3) := by decide +kernel
theorem dX0_hasSighting_10 : decode cX0_hasSighting 10 = .ok (.iload_n 3, 1) := by decide +kernel
theorem dX0_hasSighting_11 : decode cX0_hasSighting 11 = .ok (.aload_n 0, 1) := by decide +kernel
theorem dX0_hasSighting_12 : decode cX0_hasSighting 12 = .ok (.getfield 28, 3) := by decide +kernel
theorem dX0_hasSighting_15 : decode cX0_hasSighting 15 = .ok (.arraylength, 1) := by decide +kernel
theorem dX0_hasSighting_16 : decode cX0_hasSighting 16 = .ok (.if_icmp .ge 17, 3) := by decide +kernel
theorem dX0_hasSighting_19 : decode cX0_hasSighting 19 = .ok (.aload_n 0, 1) := by decide +kernel
theorem dX0_hasSighting_20 : decode cX0_hasSighting 20 = .ok (.getfield 28, 3) := by decide +kernel
theorem dX0_hasSighting_23 : decode cX0_hasSighting 23 = .ok (.iload_n 3, 1) := by decide +kernel
theorem dX0_hasSighting_24 : decode cX0_hasSighting 24 = .ok (.iaload, 1) := by decide +kernel
theorem dX0_hasSighting_25 : decode cX0_hasSighting 25 = .ok (.iconst (-1), 1) := by decide +kernel
theorem dX0_hasSighting_26 : decode cX0_hasSighting 26 = .ok (.if_icmp .eq 7, 3) := by decide +kernel
theorem dX0_hasSighting_29 : decode cX0_hasSighting 29 = .ok (.iconst 1, 1) := by decide +kernel
theorem dX0_hasSighting_30 : decode cX0_hasSighting 30 = .ok (.goto 4, 3) := by decide +kernel
theorem dX0_hasSighting_33 : decode cX0_hasSighting 33 = .ok (.iconst 0, 1) := by decide +kernel
theorem dX0_hasSighting_34 : decode cX0_hasSighting 34 = .ok (.ireturn, 1) := by decide +kernel
theorem dX0_enterSighting_0 : decode cX0_enterSighting 0 = .ok (.aload_n 0, 1) := by decide +kernel
theorem dX0_enterSighting_1 : decode cX0_enterSighting 1 = .ok (.getfield 28, 3) := by decide +kernel
theorem dX0_enterSighting_4 : decode cX0_enterSighting 4 = .ok (.iload_n 1, 1) := by decide +kernel
theorem dX0_enterSighting_5 : decode cX0_enterSighting 5 = .ok (.iload_n 2, 1) := by decide +kernel
theorem dX0_enterSighting_6 : decode cX0_enterSighting 6 = .ok (.invokestatic 75, 3) := by decide +kernel
theorem dX0_enterSighting_9 : decode cX0_enterSighting 9 = .ok (.iconst 0, 1) := by decide +kernel
theorem dX0_enterSighting_10 : decode cX0_enterSighting 10 = .ok (.invokestatic 57, 3) := by decide +kernel
theorem dX0_enterSighting_13 : decode cX0_enterSighting 13 = .ok (.aload_n 0, 1) := by decide +kernel
theorem dX0_enterSighting_14 : decode cX0_enterSighting 14 = .ok (.iload_n 2, 1) := by decide +kernel
theorem dX0_enterSighting_15 : decode cX0_enterSighting 15 = .ok (.invokevirtual 82, 3) := by decide +kernel
theorem dX0_enterSighting_18 : decode cX0_enterSighting 18 = .ok (.bipush 6, 2) := by decide +kernel
theorem dX0_enterSighting_20 : decode cX0_enterSighting 20 = .ok (.if_icmp .lt 12, 3) := by decide +kernel
theorem dX0_enterSighting_23 : decode cX0_enterSighting 23 = .ok (.aload_n 0, 1) := by decide +kernel
theorem dX0_enterSighting_24 : decode cX0_enterSighting 24 = .ok (.getfield 18, 3) := by decide +kernel
theorem dX0_enterSighting_27 : decode cX0_enterSighting 27 = .ok (.iload_n 2, 1) := by decide +kernel
theorem dX0_enterSighting_28 : decode cX0_enterSighting 28 = .ok (.iconst 1, 1) := by decide +kernel
theorem dX0_enterSighting_29 : decode cX0_enterSighting 29 = .ok (.invokestatic 71, 3) := by decide +kernel
theorem dX0_enterSighting_32 : decode cX0_enterSighting 32 = .ok (.return_, 1) := by decide +kernel
theorem dX0_sightingCount_0 : decode cX0_sightingCount 0 = .ok (.iconst 0, 1) := by decide +kernel
theorem dX0_sightingCount_1 : decode cX0_sightingCount 1 = .ok (.istore_n 1, 1) := by decide +kernel
theorem dX0_sightingCount_2 : decode cX0_sightingCount 2 = .ok (.iconst 0, 1) := by decide +kernel
theorem dX0_sightingCount_3 : decode cX0_sightingCount 3 = .ok (.istore_n 2, 1) := by decide +kernel
theorem dX0_sightingCount_4 : decode cX0_sightingCount 4 = .ok (.iload_n 2, 1) := by decide +kernel
theorem dX0_sightingCount_5 : decode cX0_sightingCount 5 = .ok (.aload_n 0, 1) := by decide +kernel
theorem dX0_sightingCount_6 : decode cX0_sightingCount 6 = .ok (.getfield 28, 3) := by decide +kernel
theorem dX0_sightingCount_9 : decode cX0_sightingCount 9 = .ok (.arraylength, 1) := by decide +kernel
theorem dX0_sightingCount_10 : decode cX0_sightingCount 10 = .ok (.if_icmp .ge 22, 3) := by decide +kernel
theorem dX0_sightingCount_13 : decode cX0_sightingCount 13 = .ok (.aload_n 0, 1) := by decide +kernel
theorem dX0_sightingCount_14 : decode cX0_sightingCount 14 = .ok (.getfield 28, 3) := by decide +kernel
theorem dX0_sightingCount_17 : decode cX0_sightingCount 17 = .ok (.iload_n 2, 1) := by decide +kernel
theorem dX0_sightingCount_18 : decode cX0_sightingCount 18 = .ok (.iaload, 1) := by decide +kernel
theorem dX0_sightingCount_19 : decode cX0_sightingCount 19 = .ok (.iconst (-1), 1) := by decide +kernel
theorem dX0_sightingCount_20 : decode cX0_sightingCount 20 = .ok (.if_icmp .eq 6, 3) := by decide +kernel
theorem dX0_sightingCount_23 : decode cX0_sightingCount 23 = .ok (.iinc 1 1, 3) := by decide +kernel
theorem dX0_sightingCount_26 : decode cX0_sightingCount 26 = .ok (.iinc 2 1, 3) := by decide +kernel
theorem dX0_sightingCount_29 : decode cX0_sightingCount 29 = .ok (.goto (-25), 3) := by decide +kernel
theorem dX0_sightingCount_32 : decode cX0_sightingCount 32 = .ok (.iload_n 1, 1) := by decide +kernel
theorem dX0_sightingCount_33 : decode cX0_sightingCount 33 = .ok (.ireturn, 1) := by decide +kernel
theorem dX0_trustSum_0 : decode cX0_trustSum 0 = .ok (.iconst 0, 1) := by decide +kernel
theorem dX0_trustSum_1 : decode cX0_trustSum 1 = .ok (.istore_n 2, 1) := by decide +kernel
theorem dX0_trustSum_2 : decode cX0_trustSum 2 = .ok (.iconst 0, 1) := by decide +kernel
theorem dX0_trustSum_3 : decode cX0_trustSum 3 = .ok (.istore_n 3, 1) := by decide +kernel
theorem dX0_trustSum_4 : decode cX0_trustSum 4 = .ok (.iload_n 3, 1) := by decide +kernel
theorem dX0_trustSum_5 : decode cX0_trustSum 5 = .ok (.iconst 4, 1) := by decide +kernel
theorem dX0_trustSum_6 : decode cX0_trustSum 6 = .ok (.if_icmp .ge 29, 3) := by decide +kernel
theorem dX0_trustSum_9 : decode cX0_trustSum 9 = .ok (.aload_n 0, 1) := by decide +kernel
theorem dX0_trustSum_10 : decode cX0_trustSum 10 = .ok (.iload_n 3, 1) := by decide +kernel
theorem dX0_trustSum_11 : decode cX0_trustSum 11 = .ok (.iload_n 1, 1) := by decide +kernel
theorem dX0_trustSum_12 : decode cX0_trustSum 12 = .ok (.invokevirtual 85, 3) := by decide +kernel
theorem dX0_trustSum_15 : decode cX0_trustSum 15 = .ok (.ifCond .eq 14, 3) := by decide +kernel
theorem dX0_trustSum_18 : decode cX0_trustSum 18 = .ok (.iload_n 2, 1) := by decide +kernel
theorem dX0_trustSum_19 : decode cX0_trustSum 19 = .ok (.aload_n 0, 1) := by decide +kernel
theorem dX0_trustSum_20 : decode cX0_trustSum 20 = .ok (.getfield 25, 3) := by decide +kernel
theorem dX0_trustSum_23 : decode cX0_trustSum 23 = .ok (.iload_n 3, 1) := by decide +kernel
theorem dX0_trustSum_24 : decode cX0_trustSum 24 = .ok (.invokestatic 53, 3) := by decide +kernel
theorem dX0_trustSum_27 : decode cX0_trustSum 27 = .ok (.iadd, 1) := by decide +kernel
theorem dX0_trustSum_28 : decode cX0_trustSum 28 = .ok (.istore_n 2, 1) := by decide +kernel
theorem dX0_trustSum_29 : decode cX0_trustSum 29 = .ok (.iinc 3 1, 3) := by decide +kernel
theorem dX0_trustSum_32 : decode cX0_trustSum 32 = .ok (.goto (-28), 3) := by decide +kernel
theorem dX0_trustSum_35 : decode cX0_trustSum 35 = .ok (.iload_n 2, 1) := by decide +kernel
theorem dX0_trustSum_36 : decode cX0_trustSum 36 = .ok (.ireturn, 1) := by decide +kernel
theorem dX0_believeWatchersOf_0 : decode cX0_believeWatchersOf 0 = .ok (.iconst 0, 1) := by decide +kernel
theorem dX0_believeWatchersOf_1 : decode cX0_believeWatchersOf 1 = .ok (.istore_n 2, 1) := by decide +kernel
theorem dX0_believeWatchersOf_2 : decode cX0_believeWatchersOf 2 = .ok (.iload_n 2, 1) := by decide +kernel
theorem dX0_believeWatchersOf_3 : decode cX0_believeWatchersOf 3 = .ok (.iconst 4, 1) := by decide +kernel
theorem dX0_believeWatchersOf_4 : decode cX0_believeWatchersOf 4 = .ok (.if_icmp .ge 41, 3) := by decide +kernel
theorem dX0_believeWatchersOf_7 : decode cX0_believeWatchersOf 7 = .ok (.aload_n 0, 1) := by decide +kernel
theorem dX0_believeWatchersOf_8 : decode cX0_believeWatchersOf 8 = .ok (.iload_n 2, 1) := by decide +kernel
theorem dX0_believeWatchersOf_9 : decode cX0_believeWatchersOf 9 = .ok (.iload_n 1, 1) := by decide +kernel
theorem dX0_believeWatchersOf_10 : decode cX0_believeWatchersOf 10 = .ok (.invokevirtual 85, 3) := by decide +kernel
theorem dX0_believeWatchersOf_13 : decode cX0_believeWatchersOf 13 = .ok (.ifCond .eq 26, 3) := by decide +kernel
theorem dX0_believeWatchersOf_16 : decode cX0_believeWatchersOf 16 = .ok (.aload_n 0, 1) := by decide +kernel
theorem dX0_believeWatchersOf_17 : decode cX0_believeWatchersOf 17 = .ok (.getfield 25, 3) := by decide +kernel
theorem dX0_believeWatchersOf_20 : decode cX0_believeWatchersOf 20 = .ok (.iload_n 2, 1) := by decide +kernel
theorem dX0_believeWatchersOf_21 : decode cX0_believeWatchersOf 21 = .ok (.bipush 9, 2) := by decide +kernel
theorem dX0_believeWatchersOf_23 : decode cX0_believeWatchersOf 23 = .ok (.aload_n 0, 1) := by decide +kernel
theorem dX0_believeWatchersOf_24 : decode cX0_believeWatchersOf 24 = .ok (.getfield 25, 3) := by decide +kernel
theorem dX0_believeWatchersOf_27 : decode cX0_believeWatchersOf 27 = .ok (.iload_n 2, 1) := by decide +kernel
theorem dX0_believeWatchersOf_28 : decode cX0_believeWatchersOf 28 = .ok (.invokestatic 53, 3) := by decide +kernel
theorem dX0_believeWatchersOf_31 : decode cX0_believeWatchersOf 31 = .ok (.iconst 1, 1) := by decide +kernel
theorem dX0_believeWatchersOf_32 : decode cX0_believeWatchersOf 32 = .ok (.iadd, 1) := by decide +kernel
theorem dX0_believeWatchersOf_33 : decode cX0_believeWatchersOf 33 = .ok (.invokestatic 89, 3) := by decide +kernel
theorem dX0_believeWatchersOf_36 : decode cX0_believeWatchersOf 36 = .ok (.invokestatic 57, 3) := by decide +kernel
theorem dX0_believeWatchersOf_39 : decode cX0_believeWatchersOf 39 = .ok (.iinc 2 1, 3) := by decide +kernel
theorem dX0_believeWatchersOf_42 : decode cX0_believeWatchersOf 42 = .ok (.goto (-40), 3) := by decide +kernel
theorem dX0_believeWatchersOf_45 : decode cX0_believeWatchersOf 45 = .ok (.return_, 1) := by decide +kernel
theorem dX0_placeOf_0 : decode cX0_placeOf 0 = .ok (.iload_n 0, 1) := by decide +kernel
theorem dX0_placeOf_1 : decode cX0_placeOf 1 = .ok (.ifCond .lt 17, 3) := by decide +kernel
theorem dX0_placeOf_4 : decode cX0_placeOf 4 = .ok (.iload_n 0, 1) := by decide +kernel
theorem dX0_placeOf_5 : decode cX0_placeOf 5 = .ok (.iconst 4, 1) := by decide +kernel
theorem dX0_placeOf_6 : decode cX0_placeOf 6 = .ok (.if_icmp .ge 12, 3) := by decide +kernel
theorem dX0_placeOf_9 : decode cX0_placeOf 9 = .ok (.iload_n 1, 1) := by decide +kernel
theorem dX0_placeOf_10 : decode cX0_placeOf 10 = .ok (.ifCond .lt 8, 3) := by decide +kernel
theorem dX0_placeOf_13 : decode cX0_placeOf 13 = .ok (.iload_n 1, 1) := by decide +kernel
theorem dX0_placeOf_14 : decode cX0_placeOf 14 = .ok (.iconst 5, 1) := by decide +kernel
theorem dX0_placeOf_15 : decode cX0_placeOf 15 = .ok (.if_icmp .lt 5, 3) := by decide +kernel
theorem dX0_placeOf_18 : decode cX0_placeOf 18 = .ok (.iconst (-1), 1) := by decide +kernel
theorem dX0_placeOf_19 : decode cX0_placeOf 19 = .ok (.ireturn, 1) := by decide +kernel
theorem dX0_placeOf_20 : decode cX0_placeOf 20 = .ok (.iload_n 0, 1) := by decide +kernel
theorem dX0_placeOf_21 : decode cX0_placeOf 21 = .ok (.iconst 5, 1) := by decide +kernel
theorem dX0_placeOf_22 : decode cX0_placeOf 22 = .ok (.imul, 1) := by decide +kernel
theorem dX0_placeOf_23 : decode cX0_placeOf 23 = .ok (.iload_n 1, 1) := by decide +kernel
theorem dX0_placeOf_24 : decode cX0_placeOf 24 = .ok (.iadd, 1) := by decide +kernel
theorem dX0_placeOf_25 : decode cX0_placeOf 25 = .ok (.ireturn, 1) := by decide +kernel
theorem dX0_watcherAt_0 : decode cX0_watcherAt 0 = .ok (.iload_n 0, 1) := by decide +kernel
theorem dX0_watcherAt_1 : decode cX0_watcherAt 1 = .ok (.iconst 5, 1) := by decide +kernel
theorem dX0_watcherAt_2 : decode cX0_watcherAt 2 = .ok (.idiv, 1) := by decide +kernel
theorem dX0_watcherAt_3 : decode cX0_watcherAt 3 = .ok (.ireturn, 1) := by decide +kernel
theorem dX0_darkFor_0 : decode cX0_darkFor 0 = .ok (.aload_n 0, 1) := by decide +kernel
theorem dX0_darkFor_1 : decode cX0_darkFor 1 = .ok (.aload_n 0, 1) := by decide +kernel
theorem dX0_darkFor_2 : decode cX0_darkFor 2 = .ok (.getfield 31, 3) := by decide +kernel
theorem dX0_darkFor_5 : decode cX0_darkFor 5 = .ok (.iload_n 1, 1) := by decide +kernel
theorem dX0_darkFor_6 : decode cX0_darkFor 6 = .ok (.invokevirtual 61, 3) := by decide +kernel
theorem dX0_darkFor_9 : decode cX0_darkFor 9 = .ok (.invokevirtual 79, 3) := by decide +kernel
theorem dX0_darkFor_12 : decode cX0_darkFor 12 = .ok (.iconst 1, 1) := by decide +kernel
theorem dX0_darkFor_13 : decode cX0_darkFor 13 = .ok (.if_icmp .ne 18, 3) := by decide +kernel
theorem dX0_darkFor_16 : decode cX0_darkFor 16 = .ok (.aload_n 0, 1) := by decide +kernel
theorem dX0_darkFor_17 : decode cX0_darkFor 17 = .ok (.getfield 22, 3) := by decide +kernel
theorem dX0_darkFor_20 : decode cX0_darkFor 20 = .ok (.iload_n 1, 1) := by decide +kernel
theorem dX0_darkFor_21 : decode cX0_darkFor 21 = .ok (.invokestatic 53, 3) := by decide +kernel
theorem dX0_darkFor_24 : decode cX0_darkFor 24 = .ok (.ifCond .ne 7, 3) := by decide +kernel
theorem dX0_darkFor_27 : decode cX0_darkFor 27 = .ok (.iconst 1, 1) := by decide +kernel
theorem dX0_darkFor_28 : decode cX0_darkFor 28 = .ok (.goto 4, 3) := by decide +kernel
theorem dX0_darkFor_31 : decode cX0_darkFor 31 = .ok (.iconst 0, 1) := by decide +kernel
theorem dX0_darkFor_32 : decode cX0_darkFor 32 = .ok (.ireturn, 1) := by decide +kernel
theorem dX0_darkCount_0 : decode cX0_darkCount 0 = .ok (.iconst 0, 1) := by decide +kernel
theorem dX0_darkCount_1 : decode cX0_darkCount 1 = .ok (.istore_n 1, 1) := by decide +kernel
theorem dX0_darkCount_2 : decode cX0_darkCount 2 = .ok (.iconst 0, 1) := by decide +kernel
theorem dX0_darkCount_3 : decode cX0_darkCount 3 = .ok (.istore_n 2, 1) := by decide +kernel
theorem dX0_darkCount_4 : decode cX0_darkCount 4 = .ok (.iload_n 2, 1) := by decide +kernel
theorem dX0_darkCount_5 : decode cX0_darkCount 5 = .ok (.bipush 16, 2) := by decide +kernel
theorem dX0_darkCount_7 : decode cX0_darkCount 7 = .ok (.if_icmp .ge 20, 3) := by decide +kernel
theorem dX0_darkCount_10 : decode cX0_darkCount 10 = .ok (.aload_n 0, 1) := by decide +kernel
theorem dX0_darkCount_11 : decode cX0_darkCount 11 = .ok (.iload_n 2, 1) := by decide +kernel
theorem dX0_darkCount_12 : decode cX0_darkCount 12 = .ok (.invokevirtual 94, 3) := by decide +kernel
theorem dX0_darkCount_15 : decode cX0_darkCount 15 = .ok (.ifCond .eq 6, 3) := by decide +kernel
theorem dX0_darkCount_18 : decode cX0_darkCount 18 = .ok (.iinc 1 1, 3) := by decide +kernel
theorem dX0_darkCount_21 : decode cX0_darkCount 21 = .ok (.iinc 2 1, 3) := by decide +kernel
theorem dX0_darkCount_24 : decode cX0_darkCount 24 = .ok (.goto (-20), 3) := by decide +kernel
theorem dX0_darkCount_27 : decode cX0_darkCount 27 = .ok (.iload_n 1, 1) := by decide +kernel
theorem dX0_darkCount_28 : decode cX0_darkCount 28 = .ok (.ireturn, 1) := by decide +kernel
theorem dX0_lightCandle_0 : decode cX0_lightCandle 0 = .ok (.aload_n 0, 1) := by decide +kernel
theorem dX0_lightCandle_1 : decode cX0_lightCandle 1 = .ok (.getfield 47, 3) := by decide +kernel
theorem dX0_lightCandle_4 : decode cX0_lightCandle 4 = .ok (.bipush 12, 2) := by decide +kernel
theorem dX0_lightCandle_6 : decode cX0_lightCandle 6 = .ok (.if_icmp .ge 5, 3) := by decide +kernel
theorem dX0_lightCandle_9 : decode cX0_lightCandle 9 = .ok (.iconst 0, 1) := by decide +kernel
theorem dX0_lightCandle_10 : decode cX0_lightCandle 10 = .ok (.ireturn, 1) := by decide +kernel
theorem dX0_lightCandle_11 : decode cX0_lightCandle 11 = .ok (.aload_n 0, 1) := by decide +kernel
theorem dX0_lightCandle_12 : decode cX0_lightCandle 12 = .ok (.dup, 1) := by decide +kernel
theorem dX0_lightCandle_13 : decode cX0_lightCandle 13 = .ok (.getfield 47, 3) := by decide +kernel
theorem dX0_lightCandle_16 : decode cX0_lightCandle 16 = .ok (.bipush 12, 2) := by decide +kernel
theorem dX0_lightCandle_18 : decode cX0_lightCandle 18 = .ok (.isub, 1) := by decide +kernel
theorem dX0_lightCandle_19 : decode cX0_lightCandle 19 = .ok (.putfield 47, 3) := by decide +kernel
theorem dX0_lightCandle_22 : decode cX0_lightCandle 22 = .ok (.aload_n 0, 1) := by decide +kernel
theorem dX0_lightCandle_23 : decode cX0_lightCandle 23 = .ok (.getfield 22, 3) := by decide +kernel
theorem dX0_lightCandle_26 : decode cX0_lightCandle 26 = .ok (.iload_n 1, 1) := by decide +kernel
theorem dX0_lightCandle_27 : decode cX0_lightCandle 27 = .ok (.bipush 12, 2) := by decide +kernel
theorem dX0_lightCandle_29 : decode cX0_lightCandle 29 = .ok (.invokestatic 57, 3) := by decide +kernel
theorem dX0_lightCandle_32 : decode cX0_lightCandle 32 = .ok (.iconst 1, 1) := by decide +kernel
theorem dX0_lightCandle_33 : decode cX0_lightCandle 33 = .ok (.ireturn, 1) := by decide +kernel
theorem dX0_passNights_0 : decode cX0_passNights 0 = .ok (.iconst 0, 1) := by decide +kernel
theorem dX0_passNights_1 : decode cX0_passNights 1 = .ok (.istore_n 2, 1) := by decide +kernel
theorem dX0_passNights_2 : decode cX0_passNights 2 = .ok (.iconst 0, 1) := by decide +kernel
theorem dX0_passNights_3 : decode cX0_passNights 3 = .ok (.istore_n 3, 1) := by decide +kernel
theorem dX0_passNights_4 : decode cX0_passNights 4 = .ok (.iload_n 3, 1) := by decide +kernel
theorem dX0_passNights_5 : decode cX0_passNights 5 = .ok (.iload_n 1, 1) := by decide +kernel
theorem dX0_passNights_6 : decode cX0_passNights 6 = .ok (.if_icmp .ge 16, 3) := by decide +kernel
theorem dX0_passNights_9 : decode cX0_passNights 9 = .ok (.iload_n 2, 1) := by decide +kernel
theorem dX0_passNights_10 : decode cX0_passNights 10 = .ok (.aload_n 0, 1) := by decide +kernel
theorem dX0_passNights_11 : decode cX0_passNights 11 = .ok (.invokevirtual 97, 3) := by decide +kernel
theorem dX0_passNights_14 : decode cX0_passNights 14 = .ok (.iadd, 1) := by decide +kernel
theorem dX0_passNights_15 : decode cX0_passNights 15 = .ok (.istore_n 2, 1) := by decide +kernel
theorem dX0_passNights_16 : decode cX0_passNights 16 = .ok (.iinc 3 1, 3) := by decide +kernel
theorem dX0_passNights_19 : decode cX0_passNights 19 = .ok (.goto (-15), 3) := by decide +kernel
theorem dX0_passNights_22 : decode cX0_passNights 22 = .ok (.iload_n 2, 1) := by decide +kernel
theorem dX0_passNights_23 : decode cX0_passNights 23 = .ok (.ireturn, 1) := by decide +kernel
theorem dX0_passNight_0 : decode cX0_passNight 0 = .ok (.aload_n 0, 1) := by decide +kernel
theorem dX0_passNight_1 : decode cX0_passNight 1 = .ok (.invokevirtual 101, 3) := by decide +kernel
theorem dX0_passNight_4 : decode cX0_passNight 4 = .ok (.aload_n 0, 1) := by decide +kernel
theorem dX0_passNight_5 : decode cX0_passNight 5 = .ok (.invokevirtual 104, 3) := by decide +kernel
theorem dX0_passNight_8 : decode cX0_passNight 8 = .ok (.aload_n 0, 1) := by decide +kernel
theorem dX0_passNight_9 : decode cX0_passNight 9 = .ok (.invokevirtual 107, 3) := by decide +kernel
theorem dX0_passNight_12 : decode cX0_passNight 12 = .ok (.istore_n 1, 1) := by decide +kernel
theorem dX0_passNight_13 : decode cX0_passNight 13 = .ok (.aload_n 0, 1) := by decide +kernel
theorem dX0_passNight_14 : decode cX0_passNight 14 = .ok (.invokevirtual 110, 3) := by decide +kernel
theorem dX0_passNight_17 : decode cX0_passNight 17 = .ok (.aload_n 0, 1) := by decide +kernel
theorem dX0_passNight_18 : decode cX0_passNight 18 = .ok (.dup, 1) := by decide +kernel
theorem dX0_passNight_19 : decode cX0_passNight 19 = .ok (.getfield 43, 3) := by decide +kernel
theorem dX0_passNight_22 : decode cX0_passNight 22 = .ok (.iconst 1, 1) := by decide +kernel
theorem dX0_passNight_23 : decode cX0_passNight 23 = .ok (.iadd, 1) := by decide +kernel
theorem dX0_passNight_24 : decode cX0_passNight 24 = .ok (.putfield 43, 3) := by decide +kernel
theorem dX0_passNight_27 : decode cX0_passNight 27 = .ok (.iload_n 1, 1) := by decide +kernel
theorem dX0_passNight_28 : decode cX0_passNight 28 = .ok (.ireturn, 1) := by decide +kernel
theorem dX0_ageSightings_0 : decode cX0_ageSightings 0 = .ok (.iconst 0, 1) := by decide +kernel
theorem dX0_ageSightings_1 : decode cX0_ageSightings 1 = .ok (.istore_n 1, 1) := by decide +kernel
theorem dX0_ageSightings_2 : decode cX0_ageSightings 2 = .ok (.iload_n 1, 1) := by decide +kernel
theorem dX0_ageSightings_3 : decode cX0_ageSightings 3 = .ok (.aload_n 0, 1) := by decide +kernel
theorem dX0_ageSightings_4 : decode cX0_ageSightings 4 = .ok (.getfield 28, 3) := by decide +kernel
theorem dX0_ageSightings_7 : decode cX0_ageSightings 7 = .ok (.arraylength, 1) := by decide +kernel
theorem dX0_ageSightings_8 : decode cX0_ageSightings 8 = .ok (.if_icmp .ge 54, 3) := by decide +kernel
theorem dX0_ageSightings_11 : decode cX0_ageSightings 11 = .ok (.aload_n 0, 1) := by decide +kernel
theorem dX0_ageSightings_12 : decode cX0_ageSightings 12 = .ok (.getfield 28, 3) := by decide +kernel
theorem dX0_ageSightings_15 : decode cX0_ageSightings 15 = .ok (.iload_n 1, 1) := by decide +kernel
theorem dX0_ageSightings_16 : decode cX0_ageSightings 16 = .ok (.iaload, 1) := by decide +kernel
theorem dX0_ageSightings_17 : decode cX0_ageSightings 17 = .ok (.iconst (-1), 1) := by decide +kernel
theorem dX0_ageSightings_18 : decode cX0_ageSightings 18 = .ok (.if_icmp .eq 38, 3) := by decide +kernel
theorem dX0_ageSightings_21 : decode cX0_ageSightings 21 = .ok (.aload_n 0, 1) := by decide +kernel
theorem dX0_ageSightings_22 : decode cX0_ageSightings 22 = .ok (.getfield 28, 3) := by decide +kernel
theorem dX0_ageSightings_25 : decode cX0_ageSightings 25 = .ok (.iload_n 1, 1) := by decide +kernel
theorem dX0_ageSightings_26 : decode cX0_ageSightings 26 = .ok (.dup2, 1) := by decide +kernel
theorem dX0_ageSightings_27 : decode cX0_ageSightings 27 = .ok (.iaload, 1) := by decide +kernel
theorem dX0_ageSightings_28 : decode cX0_ageSightings 28 = .ok (.iconst 1, 1) := by decide +kernel
theorem dX0_ageSightings_29 : decode cX0_ageSightings 29 = .ok (.iadd, 1) := by decide +kernel
theorem dX0_ageSightings_30 : decode cX0_ageSightings 30 = .ok (.iastore, 1) := by decide +kernel
theorem dX0_ageSightings_31 : decode cX0_ageSightings 31 = .ok (.aload_n 0, 1) := by decide +kernel
theorem dX0_ageSightings_32 : decode cX0_ageSightings 32 = .ok (.getfield 28, 3) := by decide +kernel
theorem dX0_ageSightings_35 : decode cX0_ageSightings 35 = .ok (.iload_n 1, 1) := by decide +kernel
theorem dX0_ageSightings_36 : decode cX0_ageSightings 36 = .ok (.iaload, 1) := by decide +kernel
theorem dX0_ageSightings_37 : decode cX0_ageSightings 37 = .ok (.iconst 3, 1) := by decide +kernel
theorem dX0_ageSightings_38 : decode cX0_ageSightings 38 = .ok (.if_icmp .lt 18, 3) := by decide +kernel
theorem dX0_ageSightings_41 : decode cX0_ageSightings 41 = .ok (.aload_n 0, 1) := by decide +kernel
theorem dX0_ageSightings_42 : decode cX0_ageSightings 42 = .ok (.getfield 28, 3) := by decide +kernel
theorem dX0_ageSightings_45 : decode cX0_ageSightings 45 = .ok (.iload_n 1, 1) := by decide +kernel
theorem dX0_ageSightings_46 : decode cX0_ageSightings 46 = .ok (.iconst (-1), 1) := by decide +kernel
theorem dX0_ageSightings_47 : decode cX0_ageSightings 47 = .ok (.iastore, 1) := by decide +kernel
theorem dX0_ageSightings_48 : decode cX0_ageSightings 48 = .ok (.aload_n 0, 1) := by decide +kernel
theorem dX0_ageSightings_49 : decode cX0_ageSightings 49 = .ok (.iload_n 1, 1) := by decide +kernel
theorem dX0_ageSightings_50 : decode cX0_ageSightings 50 = .ok (.invokestatic 113, 3) := by decide +kernel
theorem dX0_ageSightings_53 : decode cX0_ageSightings 53 = .ok (.invokevirtual 116, 3) := by decide +kernel
theorem dX0_ageSightings_56 : decode cX0_ageSightings 56 = .ok (.iinc 1 1, 3) := by decide +kernel
theorem dX0_ageSightings_59 : decode cX0_ageSightings 59 = .ok (.goto (-57), 3) := by decide +kernel
theorem dX0_ageSightings_62 : decode cX0_ageSightings 62 = .ok (.return_, 1) := by decide +kernel
theorem dX0_doubt_0 : decode cX0_doubt 0 = .ok (.aload_n 0, 1) := by decide +kernel
theorem dX0_doubt_1 : decode cX0_doubt 1 = .ok (.getfield 25, 3) := by decide +kernel
theorem dX0_doubt_4 : decode cX0_doubt 4 = .ok (.iload_n 1, 1) := by decide +kernel
theorem dX0_doubt_5 : decode cX0_doubt 5 = .ok (.iconst 0, 1) := by decide +kernel
theorem dX0_doubt_6 : decode cX0_doubt 6 = .ok (.aload_n 0, 1) := by decide +kernel
theorem dX0_doubt_7 : decode cX0_doubt 7 = .ok (.getfield 25, 3) := by decide +kernel
theorem dX0_doubt_10 : decode cX0_doubt 10 = .ok (.iload_n 1, 1) := by decide +kernel
theorem dX0_doubt_11 : decode cX0_doubt 11 = .ok (.invokestatic 53, 3) := by decide +kernel
theorem dX0_doubt_14 : decode cX0_doubt 14 = .ok (.iconst 2, 1) := by decide +kernel
theorem dX0_doubt_15 : decode cX0_doubt 15 = .ok (.isub, 1) := by decide +kernel
theorem dX0_doubt_16 : decode cX0_doubt 16 = .ok (.invokestatic 120, 3) := by decide +kernel
theorem dX0_doubt_19 : decode cX0_doubt 19 = .ok (.invokestatic 57, 3) := by decide +kernel
theorem dX0_doubt_22 : decode cX0_doubt 22 = .ok (.return_, 1) := by decide +kernel
theorem dX0_unringBells_0 : decode cX0_unringBells 0 = .ok (.iconst 0, 1) := by decide +kernel
theorem dX0_unringBells_1 : decode cX0_unringBells 1 = .ok (.istore_n 1, 1) := by decide +kernel
theorem dX0_unringBells_2 : decode cX0_unringBells 2 = .ok (.iload_n 1, 1) := by decide +kernel
theorem dX0_unringBells_3 : decode cX0_unringBells 3 = .ok (.iconst 5, 1) := by decide +kernel
theorem dX0_unringBells_4 : decode cX0_unringBells 4 = .ok (.if_icmp .ge 49, 3) := by decide +kernel
theorem dX0_unringBells_7 : decode cX0_unringBells 7 = .ok (.aload_n 0, 1) := by decide +kernel
theorem dX0_unringBells_8 : decode cX0_unringBells 8 = .ok (.getfield 18, 3) := by decide +kernel
theorem dX0_unringBells_11 : decode cX0_unringBells 11 = .ok (.iload_n 1, 1) := by decide +kernel
theorem dX0_unringBells_12 : decode cX0_unringBells 12 = .ok (.invokestatic 123, 3) := by decide +kernel
theorem dX0_unringBells_15 : decode cX0_unringBells 15 = .ok (.ifCond .eq 32, 3) := by decide +kernel
theorem dX0_unringBells_18 : decode cX0_unringBells 18 = .ok (.aload_n 0, 1) := by decide +kernel
theorem dX0_unringBells_19 : decode cX0_unringBells 19 = .ok (.iload_n 1, 1) := by decide +kernel
theorem dX0_unringBells_20 : decode cX0_unringBells 20 = .ok (.invokevirtual 82, 3) := by decide +kernel
theorem dX0_unringBells_23 : decode cX0_unringBells 23 = .ok (.bipush 6, 2) := by decide +kernel
theorem dX0_unringBells_25 : decode cX0_unringBells 25 = .ok (.if_icmp .ge 22, 3) := by decide +kernel
theorem dX0_unringBells_28 : decode cX0_unringBells 28 = .ok (.aload_n 0, 1) := by decide +kernel
theorem dX0_unringBells_29 : decode cX0_unringBells 29 = .ok (.getfield 18, 3) := by decide +kernel
theorem dX0_unringBells_32 : decode cX0_unringBells 32 = .ok (.iload_n 1, 1) := by decide +kernel
theorem dX0_unringBells_33 : decode cX0_unringBells 33 = .ok (.iconst 0, 1) := by decide +kernel
theorem dX0_unringBells_34 : decode cX0_unringBells 34 = .ok (.invokestatic 71, 3) := by decide +kernel
theorem dX0_unringBells_37 : decode cX0_unringBells 37 = .ok (.aload_n 0, 1) := by decide +kernel
theorem dX0_unringBells_38 : decode cX0_unringBells 38 = .ok (.dup, 1) := by decide +kernel
theorem dX0_unringBells_39 : decode cX0_unringBells 39 = .ok (.getfield 50, 3) := by decide +kernel
theorem dX0_unringBells_42 : decode cX0_unringBells 42 = .ok (.iconst 1, 1) := by decide +kernel
theorem dX0_unringBells_43 : decode cX0_unringBells 43 = .ok (.iadd, 1) := by decide +kernel
theorem dX0_unringBells_44 : decode cX0_unringBells 44 = .ok (.putfield 50, 3) := by decide +kernel
theorem dX0_unringBells_47 : decode cX0_unringBells 47 = .ok (.iinc 1 1, 3) := by decide +kernel
theorem dX0_unringBells_50 : decode cX0_unringBells 50 = .ok (.goto (-48), 3) := by decide +kernel
theorem dX0_unringBells_53 : decode cX0_unringBells 53 = .ok (.return_, 1) := by decide +kernel
theorem dX0_burnCandles_0 : decode cX0_burnCandles 0 = .ok (.iconst 0, 1) := by decide +kernel
theorem dX0_burnCandles_1 : decode cX0_burnCandles 1 = .ok (.istore_n 1, 1) := by decide +kernel
theorem dX0_burnCandles_2 : decode cX0_burnCandles 2 = .ok (.iconst 0, 1) := by decide +kernel
theorem dX0_burnCandles_3 : decode cX0_burnCandles 3 = .ok (.istore_n 2, 1) := by decide +kernel
theorem dX0_burnCandles_4 : decode cX0_burnCandles 4 = .ok (.iload_n 2, 1) := by decide +kernel
theorem dX0_burnCandles_5 : decode cX0_burnCandles 5 = .ok (.bipush 16, 2) := by decide +kernel
theorem dX0_burnCandles_7 : decode cX0_burnCandles 7 = .ok (.if_icmp .ge 65, 3) := by decide +kernel
theorem dX0_burnCandles_10 : decode cX0_burnCandles 10 = .ok (.aload_n 0, 1) := by decide +kernel
theorem dX0_burnCandles_11 : decode cX0_burnCandles 11 = .ok (.getfield 31, 3) := by decide +kernel
theorem dX0_burnCandles_14 : decode cX0_burnCandles 14 = .ok (.iload_n 2, 1) := by decide +kernel
theorem dX0_burnCandles_15 : decode cX0_burnCandles 15 = .ok (.invokevirtual 61, 3) := by decide +kernel
theorem dX0_burnCandles_18 : decode cX0_burnCandles 18 = .ok (.istore_n 3, 1) := by decide +kernel
theorem dX0_burnCandles_19 : decode cX0_burnCandles 19 = .ok (.aload_n 0, 1) := by decide +kernel
theorem dX0_burnCandles_20 : decode cX0_burnCandles 20 = .ok (.iload_n 3, 1) := by decide +kernel
theorem dX0_burnCandles_21 : decode cX0_burnCandles 21 = .ok (.invokevirtual 79, 3) := by decide +kernel
theorem dX0_burnCandles_24 : decode cX0_burnCandles 24 = .ok (.iconst 1, 1) := by decide +kernel
theorem dX0_burnCandles_25 : decode cX0_burnCandles 25 = .ok (.if_icmp .ne 41, 3) := by decide +kernel
theorem dX0_burnCandles_28 : decode cX0_burnCandles 28 = .ok (.aload_n 0, 1) := by decide +kernel
theorem dX0_burnCandles_29 : decode cX0_burnCandles 29 = .ok (.getfield 18, 3) := by decide +kernel
theorem dX0_burnCandles_32 : decode cX0_burnCandles 32 = .ok (.iload_n 3, 1) := by decide +kernel
theorem dX0_burnCandles_33 : decode cX0_burnCandles 33 = .ok (.invokestatic 123, 3) := by decide +kernel
theorem dX0_burnCandles_36 : decode cX0_burnCandles 36 = .ok (.ifCond .ne 30, 3) := by decide +kernel
theorem dX0_burnCandles_39 : decode cX0_burnCandles 39 = .ok (.aload_n 0, 1) := by decide +kernel
theorem dX0_burnCandles_40 : decode cX0_burnCandles 40 = .ok (.iload_n 2, 1) := by decide +kernel
theorem dX0_burnCandles_41 : decode cX0_burnCandles 41 = .ok (.invokevirtual 127, 3) := by decide +kernel
theorem dX0_burnCandles_44 : decode cX0_burnCandles 44 = .ok (.aload_n 0, 1) := by decide +kernel
theorem dX0_burnCandles_45 : decode cX0_burnCandles 45 = .ok (.getfield 22, 3) := by decide +kernel
theorem dX0_burnCandles_48 : decode cX0_burnCandles 48 = .ok (.iload_n 2, 1) := by decide +kernel
theorem dX0_burnCandles_49 : decode cX0_burnCandles 49 = .ok (.invokestatic 53, 3) := by decide +kernel
theorem dX0_burnCandles_52 : decode cX0_burnCandles 52 = .ok (.ifCond .ne 14, 3) := by decide +kernel
theorem dX0_burnCandles_55 : decode cX0_burnCandles 55 = .ok (.aload_n 0, 1) := by decide +kernel
theorem dX0_burnCandles_56 : decode cX0_burnCandles 56 = .ok (.iload_n 2, 1) := by decide +kernel
theorem dX0_burnCandles_57 : decode cX0_burnCandles 57 = .ok (.invokevirtual 67, 3) := by decide +kernel
theorem dX0_burnCandles_60 : decode cX0_burnCandles 60 = .ok (.ifCond .eq 6, 3) := by decide +kernel
theorem dX0_burnCandles_63 : decode cX0_burnCandles 63 = .ok (.iinc 1 1, 3) := by decide +kernel
theorem dX0_burnCandles_66 : decode cX0_burnCandles 66 = .ok (.iinc 2 1, 3) := by decide +kernel
theorem dX0_burnCandles_69 : decode cX0_burnCandles 69 = .ok (.goto (-65), 3) := by decide +kernel
theorem dX0_burnCandles_72 : decode cX0_burnCandles 72 = .ok (.iload_n 1, 1) := by decide +kernel
theorem dX0_burnCandles_73 : decode cX0_burnCandles 73 = .ok (.ireturn, 1) := by decide +kernel
theorem dX0_burnCandle_0 : decode cX0_burnCandle 0 = .ok (.iconst 1, 1) := by decide +kernel
theorem dX0_burnCandle_1 : decode cX0_burnCandle 1 = .ok (.aload_n 0, 1) := by decide +kernel
theorem dX0_burnCandle_2 : decode cX0_burnCandle 2 = .ok (.getfield 31, 3) := by decide +kernel
theorem dX0_burnCandle_5 : decode cX0_burnCandle 5 = .ok (.getfield 130, 3) := by decide +kernel
theorem dX0_burnCandle_8 : decode cX0_burnCandle 8 = .ok (.iload_n 1, 1) := by decide +kernel
theorem dX0_burnCandle_9 : decode cX0_burnCandle 9 = .ok (.invokestatic 53, 3) := by decide +kernel
theorem dX0_burnCandle_12 : decode cX0_burnCandle 12 = .ok (.iadd, 1) := by decide +kernel
theorem dX0_burnCandle_13 : decode cX0_burnCandle 13 = .ok (.istore_n 2, 1) := by decide +kernel
theorem dX0_burnCandle_14 : decode cX0_burnCandle 14 = .ok (.aload_n 0, 1) := by decide +kernel
theorem dX0_burnCandle_15 : decode cX0_burnCandle 15 = .ok (.getfield 22, 3) := by decide +kernel
theorem dX0_burnCandle_18 : decode cX0_burnCandle 18 = .ok (.iload_n 1, 1) := by decide +kernel
theorem dX0_burnCandle_19 : decode cX0_burnCandle 19 = .ok (.iconst 0, 1) := by decide +kernel
theorem dX0_burnCandle_20 : decode cX0_burnCandle 20 = .ok (.aload_n 0, 1) := by decide +kernel
theorem dX0_burnCandle_21 : decode cX0_burnCandle 21 = .ok (.getfield 22, 3) := by decide +kernel
theorem dX0_burnCandle_24 : decode cX0_burnCandle 24 = .ok (.iload_n 1, 1) := by decide +kernel
theorem dX0_burnCandle_25 : decode cX0_burnCandle 25 = .ok (.invokestatic 53, 3) := by decide +kernel
theorem dX0_burnCandle_28 : decode cX0_burnCandle 28 = .ok (.iload_n 2, 1) := by decide +kernel
theorem dX0_burnCandle_29 : decode cX0_burnCandle 29 = .ok (.isub, 1) := by decide +kernel
theorem dX0_burnCandle_30 : decode cX0_burnCandle 30 = .ok (.invokestatic 120, 3) := by decide +kernel
theorem dX0_burnCandle_33 : decode cX0_burnCandle 33 = .ok (.invokestatic 57, 3) := by decide +kernel
theorem dX0_burnCandle_36 : decode cX0_burnCandle 36 = .ok (.return_, 1) := by decide +kernel
theorem dX0_countNightOut_0 : decode cX0_countNightOut 0 = .ok (.iconst 0, 1) := by decide +kernel
theorem dX0_countNightOut_1 : decode cX0_countNightOut 1 = .ok (.istore_n 1, 1) := by decide +kernel
theorem dX0_countNightOut_2 : decode cX0_countNightOut 2 = .ok (.iload_n 1, 1) := by decide +kernel
theorem dX0_countNightOut_3 : decode cX0_countNightOut 3 = .ok (.iconst 5, 1) := by decide +kernel
theorem dX0_countNightOut_4 : decode cX0_countNightOut 4 = .ok (.if_icmp .ge 61, 3) := by decide +kernel
theorem dX0_countNightOut_7 : decode cX0_countNightOut 7 = .ok (.aload_n 0, 1) := by decide +kernel
theorem dX0_countNightOut_8 : decode cX0_countNightOut 8 = .ok (.iload_n 1, 1) := by decide +kernel
theorem dX0_countNightOut_9 : decode cX0_countNightOut 9 = .ok (.invokevirtual 79, 3) := by decide +kernel
theorem dX0_countNightOut_12 : decode cX0_countNightOut 12 = .ok (.iconst 1, 1) := by decide +kernel
theorem dX0_countNightOut_13 : decode cX0_countNightOut 13 = .ok (.if_icmp .ne 46, 3) := by decide +kernel
theorem dX0_countNightOut_16 : decode cX0_countNightOut 16 = .ok (.aload_n 0, 1) := by decide +kernel
theorem dX0_countNightOut_17 : decode cX0_countNightOut 17 = .ok (.getfield 15, 3) := by decide +kernel
theorem dX0_countNightOut_20 : decode cX0_countNightOut 20 = .ok (.iload_n 1, 1) := by decide +kernel
theorem dX0_countNightOut_21 : decode cX0_countNightOut 21 = .ok (.invokestatic 53, 3) := by decide +kernel
theorem dX0_countNightOut_24 : decode cX0_countNightOut 24 = .ok (.iconst 1, 1) := by decide +kernel
theorem dX0_countNightOut_25 : decode cX0_countNightOut 25 = .ok (.iadd, 1) := by decide +kernel
theorem dX0_countNightOut_26 : decode cX0_countNightOut 26 = .ok (.istore_n 2, 1) := by decide +kernel
theorem dX0_countNightOut_27 : decode cX0_countNightOut 27 = .ok (.aload_n 0, 1) := by decide +kernel
theorem dX0_countNightOut_28 : decode cX0_countNightOut 28 = .ok (.getfield 15, 3) := by decide +kernel
theorem dX0_countNightOut_31 : decode cX0_countNightOut 31 = .ok (.iload_n 1, 1) := by decide +kernel
theorem dX0_countNightOut_32 : decode cX0_countNightOut 32 = .ok (.iload_n 2, 1) := by decide +kernel
theorem dX0_countNightOut_33 : decode cX0_countNightOut 33 = .ok (.invokestatic 57, 3) := by decide +kernel
theorem dX0_countNightOut_36 : decode cX0_countNightOut 36 = .ok (.iload_n 2, 1) := by decide +kernel
theorem dX0_countNightOut_37 : decode cX0_countNightOut 37 = .ok (.bipush 20, 2) := by decide +kernel
theorem dX0_countNightOut_39 : decode cX0_countNightOut 39 = .ok (.if_icmp .le 20, 3) := by decide +kernel
theorem dX0_countNightOut_42 : decode cX0_countNightOut 42 = .ok (.aload_n 0, 1) := by decide +kernel
theorem dX0_countNightOut_43 : decode cX0_countNightOut 43 = .ok (.getfield 31, 3) := by decide +kernel
theorem dX0_countNightOut_46 : decode cX0_countNightOut 46 = .ok (.iload_n 1, 1) := by decide +kernel
theorem dX0_countNightOut_47 : decode cX0_countNightOut 47 = .ok (.invokevirtual 133, 3) := by decide +kernel
theorem dX0_countNightOut_50 : decode cX0_countNightOut 50 = .ok (.ifCond .ne 9, 3) := by decide +kernel
theorem dX0_countNightOut_53 : decode cX0_countNightOut 53 = .ok (.aload_n 0, 1) := by decide +kernel
theorem dX0_countNightOut_54 : decode cX0_countNightOut 54 = .ok (.iload_n 1, 1) := by decide +kernel
theorem dX0_countNightOut_55 : decode cX0_countNightOut 55 = .ok (.iconst 2, 1) := by decide +kernel
theorem dX0_countNightOut_56 : decode cX0_countNightOut 56 = .ok (.invokevirtual 136, 3) := by decide +kernel
theorem dX0_countNightOut_59 : decode cX0_countNightOut 59 = .ok (.iinc 1 1, 3) := by decide +kernel
theorem dX0_countNightOut_62 : decode cX0_countNightOut 62 = .ok (.goto (-60), 3) := by decide +kernel
theorem dX0_countNightOut_65 : decode cX0_countNightOut 65 = .ok (.return_, 1) := by decide +kernel
theorem dX1_init_0 : decode cX1_init 0 = .ok (.aload_n 0, 1) := by decide +kernel
theorem dX1_init_1 : decode cX1_init 1 = .ok (.invokespecial 3, 3) := by decide +kernel
theorem dX1_init_4 : decode cX1_init 4 = .ok (.aload_n 0, 1) := by decide +kernel
theorem dX1_init_5 : decode cX1_init 5 = .ok (.iconst 5, 1) := by decide +kernel
theorem dX1_init_6 : decode cX1_init 6 = .ok (.newarray .int, 2) := by decide +kernel
theorem dX1_init_8 : decode cX1_init 8 = .ok (.putfield 9, 3) := by decide +kernel
theorem dX1_init_11 : decode cX1_init 11 = .ok (.aload_n 0, 1) := by decide +kernel
theorem dX1_init_12 : decode cX1_init 12 = .ok (.bipush 16, 2) := by decide +kernel
theorem dX1_init_14 : decode cX1_init 14 = .ok (.newarray .int, 2) := by decide +kernel
theorem dX1_init_16 : decode cX1_init 16 = .ok (.putfield 15, 3) := by decide +kernel
theorem dX1_init_19 : decode cX1_init 19 = .ok (.aload_n 0, 1) := by decide +kernel
theorem dX1_init_20 : decode cX1_init 20 = .ok (.bipush 16, 2) := by decide +kernel
theorem dX1_init_22 : decode cX1_init 22 = .ok (.newarray .int, 2) := by decide +kernel
theorem dX1_init_24 : decode cX1_init 24 = .ok (.putfield 18, 3) := by decide +kernel
theorem dX1_init_27 : decode cX1_init 27 = .ok (.aload_n 0, 1) := by decide +kernel
theorem dX1_init_28 : decode cX1_init 28 = .ok (.bipush 16, 2) := by decide +kernel
theorem dX1_init_30 : decode cX1_init 30 = .ok (.newarray .boolean, 2) := by decide +kernel
theorem dX1_init_32 : decode cX1_init 32 = .ok (.putfield 21, 3) := by decide +kernel
theorem dX1_init_35 : decode cX1_init 35 = .ok (.aload_n 0, 1) := by decide +kernel
theorem dX1_init_36 : decode cX1_init 36 = .ok (.bipush 16, 2) := by decide +kernel
theorem dX1_init_38 : decode cX1_init 38 = .ok (.newarray .boolean, 2) := by decide +kernel
theorem dX1_init_40 : decode cX1_init 40 = .ok (.putfield 25, 3) := by decide +kernel
theorem dX1_init_43 : decode cX1_init 43 = .ok (.iconst 0, 1) := by decide +kernel
theorem dX1_init_44 : decode cX1_init 44 = .ok (.istore_n 1, 1) := by decide +kernel
theorem dX1_init_45 : decode cX1_init 45 = .ok (.iload_n 1, 1) := by decide +kernel
theorem dX1_init_46 : decode cX1_init 46 = .ok (.aload_n 0, 1) := by decide +kernel
theorem dX1_init_47 : decode cX1_init 47 = .ok (.getfield 15, 3) := by decide +kernel
theorem dX1_init_50 : decode cX1_init 50 = .ok (.arraylength, 1) := by decide +kernel
theorem dX1_init_51 : decode cX1_init 51 = .ok (.if_icmp .ge 16, 3) := by decide +kernel
theorem dX1_init_54 : decode cX1_init 54 = .ok (.aload_n 0, 1) := by decide +kernel
theorem dX1_init_55 : decode cX1_init 55 = .ok (.getfield 15, 3) := by decide +kernel
theorem dX1_init_58 : decode cX1_init 58 = .ok (.iload_n 1, 1) := by decide +kernel
theorem dX1_init_59 : decode cX1_init 59 = .ok (.iconst (-1), 1) := by decide +kernel
theorem dX1_init_60 : decode cX1_init 60 = .ok (.iastore, 1) := by decide +kernel
theorem dX1_init_61 : decode cX1_init 61 = .ok (.iinc 1 1, 3) := by decide +kernel
theorem dX1_init_64 : decode cX1_init 64 = .ok (.goto (-19), 3) := by decide +kernel
theorem dX1_init_67 : decode cX1_init 67 = .ok (.return_, 1) := by decide +kernel
theorem dX1_enterShip_0 : decode cX1_enterShip 0 = .ok (.aload_n 0, 1) := by decide +kernel
theorem dX1_enterShip_1 : decode cX1_enterShip 1 = .ok (.getfield 28, 3) := by decide +kernel
theorem dX1_enterShip_4 : decode cX1_enterShip 4 = .ok (.istore_n 2, 1) := by decide +kernel
theorem dX1_enterShip_5 : decode cX1_enterShip 5 = .ok (.aload_n 0, 1) := by decide +kernel
theorem dX1_enterShip_6 : decode cX1_enterShip 6 = .ok (.getfield 9, 3) := by decide +kernel
theorem dX1_enterShip_9 : decode cX1_enterShip 9 = .ok (.iload_n 2, 1) := by decide +kernel
theorem dX1_enterShip_10 : decode cX1_enterShip 10 = .ok (.iload_n 1, 1) := by decide +kernel
theorem dX1_enterShip_11 : decode cX1_enterShip 11 = .ok (.invokestatic 32, 3) := by decide +kernel
theorem dX1_enterShip_14 : decode cX1_enterShip 14 = .ok (.aload_n 0, 1) := by decide +kernel
theorem dX1_enterShip_15 : decode cX1_enterShip 15 = .ok (.dup, 1) := by decide +kernel
theorem dX1_enterShip_16 : decode cX1_enterShip 16 = .ok (.getfield 28, 3) := by decide +kernel
theorem dX1_enterShip_19 : decode cX1_enterShip 19 = .ok (.iconst 1, 1) := by decide +kernel
theorem dX1_enterShip_20 : decode cX1_enterShip 20 = .ok (.iadd, 1) := by decide +kernel
theorem dX1_enterShip_21 : decode cX1_enterShip 21 = .ok (.putfield 28, 3) := by decide +kernel
theorem dX1_enterShip_24 : decode cX1_enterShip 24 = .ok (.iload_n 2, 1) := by decide +kernel
theorem dX1_enterShip_25 : decode cX1_enterShip 25 = .ok (.ireturn, 1) := by decide +kernel
theorem dX1_enterSailor_0 : decode cX1_enterSailor 0 = .ok (.aload_n 0, 1) := by decide +kernel
theorem dX1_enterSailor_1 : decode cX1_enterSailor 1 = .ok (.getfield 36, 3) := by decide +kernel
theorem dX1_enterSailor_4 : decode cX1_enterSailor 4 = .ok (.istore 4, 2) := by decide +kernel
theorem dX1_enterSailor_6 : decode cX1_enterSailor 6 = .ok (.aload_n 0, 1) := by decide +kernel
theorem dX1_enterSailor_7 : decode cX1_enterSailor 7 = .ok (.getfield 15, 3) := by decide +kernel
theorem dX1_enterSailor_10 : decode cX1_enterSailor 10 = .ok (.iload 4, 2) := by decide +kernel
theorem dX1_enterSailor_12 : decode cX1_enterSailor 12 = .ok (.iload_n 1, 1) := by decide +kernel
theorem dX1_enterSailor_13 : decode cX1_enterSailor 13 = .ok (.invokestatic 32, 3) := by decide +kernel
theorem dX1_enterSailor_16 : decode cX1_enterSailor 16 = .ok (.aload_n 0, 1) := by decide +kernel
theorem dX1_enterSailor_17 : decode cX1_enterSailor 17 = .ok (.getfield 18, 3) := by decide +kernel
theorem dX1_enterSailor_20 : decode cX1_enterSailor 20 = .ok (.iload 4, 2) := by decide +kernel
theorem dX1_enterSailor_22 : decode cX1_enterSailor 22 = .ok (.iload_n 2, 1) := by decide +kernel
theorem dX1_enterSailor_23 : decode cX1_enterSailor 23 = .ok (.invokestatic 32, 3) := by decide +kernel
theorem dX1_enterSailor_26 : decode cX1_enterSailor 26 = .ok (.aload_n 0, 1) := by decide +kernel
theorem dX1_enterSailor_27 : decode cX1_enterSailor 27 = .ok (.getfield 21, 3) := by decide +kernel
theorem dX1_enterSailor_30 : decode cX1_enterSailor 30 = .ok (.iload 4, 2) := by decide +kernel
theorem dX1_enterSailor_32 : decode cX1_enterSailor 32 = .ok (.iload_n 3, 1) := by decide +kernel
theorem dX1_enterSailor_33 : decode cX1_enterSailor 33 = .ok (.invokestatic 39, 3) := by decide +kernel
theorem dX1_enterSailor_36 : decode cX1_enterSailor 36 = .ok (.aload_n 0, 1) := by decide +kernel
theorem dX1_enterSailor_37 : decode cX1_enterSailor 37 = .ok (.dup, 1) := by decide +kernel
theorem dX1_enterSailor_38 : decode cX1_enterSailor 38 = .ok (.getfield 36, 3) := by decide +kernel
theorem dX1_enterSailor_41 : decode cX1_enterSailor 41 = .ok (.iconst 1, 1) := by decide +kernel
theorem dX1_enterSailor_42 : decode cX1_enterSailor 42 = .ok (.iadd, 1) := by decide +kernel
theorem dX1_enterSailor_43 : decode cX1_enterSailor 43 = .ok (.putfield 36, 3) := by decide +kernel
theorem dX1_enterSailor_46 : decode cX1_enterSailor 46 = .ok (.iload 4, 2) := by decide +kernel
theorem dX1_enterSailor_48 : decode cX1_enterSailor 48 = .ok (.ireturn, 1) := by decide +kernel
theorem dX1_enterWatcher_0 : decode cX1_enterWatcher 0 = .ok (.aload_n 0, 1) := by decide +kernel
theorem dX1_enterWatcher_1 : decode cX1_enterWatcher 1 = .ok (.getfield 43, 3) := by decide +kernel
theorem dX1_enterWatcher_4 : decode cX1_enterWatcher 4 = .ok (.istore_n 1, 1) := by decide +kernel
theorem dX1_enterWatcher_5 : decode cX1_enterWatcher 5 = .ok (.aload_n 0, 1) := by decide +kernel
theorem dX1_enterWatcher_6 : decode cX1_enterWatcher 6 = .ok (.dup, 1) := by decide +kernel
theorem dX1_enterWatcher_7 : decode cX1_enterWatcher 7 = .ok (.getfield 43, 3) := by decide +kernel
theorem dX1_enterWatcher_10 : decode cX1_enterWatcher 10 = .ok (.iconst 1, 1) := by decide +kernel
theorem dX1_enterWatcher_11 : decode cX1_enterWatcher 11 = .ok (.iadd, 1) := by decide +kernel
theorem dX1_enterWatcher_12 : decode cX1_enterWatcher 12 = .ok (.putfield 43, 3) := by decide +kernel
theorem dX1_enterWatcher_15 : decode cX1_enterWatcher 15 = .ok (.iload_n 1, 1) := by decide +kernel
theorem dX1_enterWatcher_16 : decode cX1_enterWatcher 16 = .ok (.ireturn, 1) := by decide +kernel
theorem dX1_shipWith_0 : decode cX1_shipWith 0 = .ok (.iload_n 1, 1) := by decide +kernel
theorem dX1_shipWith_1 : decode cX1_shipWith 1 = .ok (.ifCond .lt 21, 3) := by decide +kernel
theorem dX1_shipWith_4 : decode cX1_shipWith 4 = .ok (.iload_n 1, 1) := by decide +kernel
theorem dX1_shipWith_5 : decode cX1_shipWith 5 = .ok (.aload_n 0, 1) := by decide +kernel
theorem dX1_shipWith_6 : decode cX1_shipWith 6 = .ok (.getfield 15, 3) := by decide +kernel
theorem dX1_shipWith_9 : decode cX1_shipWith 9 = .ok (.arraylength, 1) := by decide +kernel
theorem dX1_shipWith_10 : decode cX1_shipWith 10 = .ok (.if_icmp .ge 12, 3) := by decide +kernel
theorem dX1_shipWith_13 : decode cX1_shipWith 13 = .ok (.aload_n 0, 1) := by decide +kernel
theorem dX1_shipWith_14 : decode cX1_shipWith 14 = .ok (.getfield 15, 3) := by decide +kernel
theorem dX1_shipWith_17 : decode cX1_shipWith 17 = .ok (.iload_n 1, 1) := by decide +kernel
theorem dX1_shipWith_18 : decode cX1_shipWith 18 = .ok (.iaload, 1) := by decide +kernel
theorem dX1_shipWith_19 : decode cX1_shipWith 19 = .ok (.goto 4, 3) := by decide +kernel
theorem dX1_shipWith_22 : decode cX1_shipWith 22 = .ok (.iconst (-1), 1) := by decide +kernel
theorem dX1_shipWith_23 : decode cX1_shipWith 23 = .ok (.ireturn, 1) := by decide +kernel
theorem dX1_clearVotes_0 : decode cX1_clearVotes 0 = .ok (.iconst 0, 1) := by decide +kernel
theorem dX1_clearVotes_1 : decode cX1_clearVotes 1 = .ok (.istore_n 2, 1) := by decide +kernel
theorem dX1_clearVotes_2 : decode cX1_clearVotes 2 = .ok (.iload_n 2, 1) := by decide +kernel
theorem dX1_clearVotes_3 : decode cX1_clearVotes 3 = .ok (.aload_n 0, 1) := by decide +kernel
theorem dX1_clearVotes_4 : decode cX1_clearVotes 4 = .ok (.getfield 15, 3) := by decide +kernel
theorem dX1_clearVotes_7 : decode cX1_clearVotes 7 = .ok (.arraylength, 1) := by decide +kernel
theorem dX1_clearVotes_8 : decode cX1_clearVotes 8 = .ok (.if_icmp .ge 35, 3) := by decide +kernel
theorem dX1_clearVotes_11 : decode cX1_clearVotes 11 = .ok (.iload_n 2, 1) := by decide +kernel
theorem dX1_clearVotes_12 : decode cX1_clearVotes 12 = .ok (.aload_n 0, 1) := by decide +kernel
theorem dX1_clearVotes_13 : decode cX1_clearVotes 13 = .ok (.getfield 25, 3) := by decide +kernel
theorem dX1_clearVotes_16 : decode cX1_clearVotes 16 = .ok (.arraylength, 1) := by decide +kernel
theorem dX1_clearVotes_17 : decode cX1_clearVotes 17 = .ok (.if_icmp .ge 26, 3) := by decide +kernel
theorem dX1_clearVotes_20 : decode cX1_clearVotes 20 = .ok (.aload_n 0, 1) := by decide +kernel
theorem dX1_clearVotes_21 : decode cX1_clearVotes 21 = .ok (.getfield 15, 3) := by decide +kernel
theorem dX1_clearVotes_24 : decode cX1_clearVotes 24 = .ok (.iload_n 2, 1) := by decide +kernel
theorem dX1_clearVotes_25 : decode cX1_clearVotes 25 = .ok (.iaload, 1) := by decide +kernel
theorem dX1_clearVotes_26 : decode cX1_clearVotes 26 = .ok (.iload_n 1, 1) := by decide +kernel
theorem dX1_clearVotes_27 : decode cX1_clearVotes 27 = .ok (.if_icmp .ne 10, 3) := by decide +kernel
theorem dX1_clearVotes_30 : decode cX1_clearVotes 30 = .ok (.aload_n 0, 1) := by decide +kernel
theorem dX1_clearVotes_31 : decode cX1_clearVotes 31 = .ok (.getfield 25, 3) := by decide +kernel
theorem dX1_clearVotes_34 : decode cX1_clearVotes 34 = .ok (.iload_n 2, 1) := by decide +kernel
theorem dX1_clearVotes_35 : decode cX1_clearVotes 35 = .ok (.iconst 0, 1) := by decide +kernel
theorem dX1_clearVotes_36 : decode cX1_clearVotes 36 = .ok (.bastore, 1) := by decide +kernel
theorem dX1_clearVotes_37 : decode cX1_clearVotes 37 = .ok (.iinc 2 1, 3) := by decide +kernel
theorem dX1_clearVotes_40 : decode cX1_clearVotes 40 = .ok (.goto (-38), 3) := by decide +kernel
theorem dX1_clearVotes_43 : decode cX1_clearVotes 43 = .ok (.return_, 1) := by decide +kernel
theorem dX1_votersFor_0 : decode cX1_votersFor 0 = .ok (.aload_n 0, 1) := by decide +kernel
theorem dX1_votersFor_1 : decode cX1_votersFor 1 = .ok (.aload_n 0, 1) := by decide +kernel
theorem dX1_votersFor_2 : decode cX1_votersFor 2 = .ok (.getfield 21, 3) := by decide +kernel
theorem dX1_votersFor_5 : decode cX1_votersFor 5 = .ok (.iload_n 1, 1) := by decide +kernel
theorem dX1_votersFor_6 : decode cX1_votersFor 6 = .ok (.invokevirtual 46, 3) := by decide +kernel
theorem dX1_votersFor_9 : decode cX1_votersFor 9 = .ok (.ireturn, 1) := by decide +kernel
theorem dX1_votesAgainst_0 : decode cX1_votesAgainst 0 = .ok (.aload_n 0, 1) := by decide +kernel
theorem dX1_votesAgainst_1 : decode cX1_votesAgainst 1 = .ok (.aload_n 0, 1) := by decide +kernel
theorem dX1_votesAgainst_2 : decode cX1_votesAgainst 2 = .ok (.getfield 25, 3) := by decide +kernel
theorem dX1_votesAgainst_5 : decode cX1_votesAgainst 5 = .ok (.iload_n 1, 1) := by decide +kernel
theorem dX1_votesAgainst_6 : decode cX1_votesAgainst 6 = .ok (.invokevirtual 46, 3) := by decide +kernel
theorem dX1_votesAgainst_9 : decode cX1_votesAgainst 9 = .ok (.ireturn, 1) := by decide +kernel
theorem dX1_votesToLose_0 : decode cX1_votesToLose 0 = .ok (.aload_n 0, 1) := by decide +kernel
theorem dX1_votesToLose_1 : decode cX1_votesToLose 1 = .ok (.iload_n 1, 1) := by decide +kernel
theorem dX1_votesToLose_2 : decode cX1_votesToLose 2 = .ok (.invokevirtual 50, 3) := by decide +kernel
theorem dX1_votesToLose_5 : decode cX1_votesToLose 5 = .ok (.iconst 2, 1) := by decide +kernel
theorem dX1_votesToLose_6 : decode cX1_votesToLose 6 = .ok (.idiv, 1) := by decide +kernel
theorem dX1_votesToLose_7 : decode cX1_votesToLose 7 = .ok (.iconst 1, 1) := by decide +kernel
theorem dX1_votesToLose_8 : decode cX1_votesToLose 8 = .ok (.iadd, 1) := by decide +kernel
theorem dX1_votesToLose_9 : decode cX1_votesToLose 9 = .ok (.istore_n 2, 1) := by decide +kernel
theorem dX1_votesToLose_10 : decode cX1_votesToLose 10 = .ok (.iconst 0, 1) := by decide +kernel
theorem dX1_votesToLose_11 : decode cX1_votesToLose 11 = .ok (.iload_n 2, 1) := by decide +kernel
theorem dX1_votesToLose_12 : decode cX1_votesToLose 12 = .ok (.aload_n 0, 1) := by decide +kernel
theorem dX1_votesToLose_13 : decode cX1_votesToLose 13 = .ok (.iload_n 1, 1) := by decide +kernel
theorem dX1_votesToLose_14 : decode cX1_votesToLose 14 = .ok (.invokevirtual 54, 3) := by decide +kernel
theorem dX1_votesToLose_17 : decode cX1_votesToLose 17 = .ok (.isub, 1) := by decide +kernel
theorem dX1_votesToLose_18 : decode cX1_votesToLose 18 = .ok (.invokestatic 57, 3) := by decide +kernel
theorem dX1_votesToLose_21 : decode cX1_votesToLose 21 = .ok (.ireturn, 1) := by decide +kernel
theorem dX1_countOfShip_0 : decode cX1_countOfShip 0 = .ok (.iconst 0, 1) := by decide +kernel
theorem dX1_countOfShip_1 : decode cX1_countOfShip 1 = .ok (.istore_n 3, 1) := by decide +kernel
theorem dX1_countOfShip_2 : decode cX1_countOfShip 2 = .ok (.iconst 0, 1) := by decide +kernel
theorem dX1_countOfShip_3 : decode cX1_countOfShip 3 = .ok (.istore 4, 2) := by decide +kernel
theorem dX1_countOfShip_5 : decode cX1_countOfShip 5 = .ok (.iload 4, 2) := by decide +kernel
theorem dX1_countOfShip_7 : decode cX1_countOfShip 7 = .ok (.aload_n 0, 1) := by decide +kernel
theorem dX1_countOfShip_8 : decode cX1_countOfShip 8 = .ok (.getfield 15, 3) := by decide +kernel
theorem dX1_countOfShip_11 : decode cX1_countOfShip 11 = .ok (.arraylength, 1) := by decide +kernel
theorem dX1_countOfShip_12 : decode cX1_countOfShip 12 = .ok (.if_icmp .ge 37, 3) := by decide +kernel
theorem dX1_countOfShip_15 : decode cX1_countOfShip 15 = .ok (.iload 4, 2) := by decide +kernel
theorem dX1_countOfShip_17 : decode cX1_countOfShip 17 = .ok (.aload_n 1, 1) := by decide +kernel
theorem dX1_countOfShip_18 : decode cX1_countOfShip 18 = .ok (.arraylength, 1) := by decide +kernel
theorem dX1_countOfShip_19 : decode cX1_countOfShip 19 = .ok (.if_icmp .ge 30, 3) := by decide +kernel
theorem dX1_countOfShip_22 : decode cX1_countOfShip 22 = .ok (.aload_n 0, 1) := by decide +kernel
theorem dX1_countOfShip_23 : decode cX1_countOfShip 23 = .ok (.getfield 15, 3) := by decide +kernel
theorem dX1_countOfShip_26 : decode cX1_countOfShip 26 = .ok (.iload 4, 2) := by decide +kernel
theorem dX1_countOfShip_28 : decode cX1_countOfShip 28 = .ok (.iaload, 1) := by decide +kernel
theorem dX1_countOfShip_29 : decode cX1_countOfShip 29 = .ok (.iload_n 2, 1) := by decide +kernel
theorem dX1_countOfShip_30 : decode cX1_countOfShip 30 = .ok (.if_icmp .ne 13, 3) := by decide +kernel
theorem dX1_countOfShip_33 : decode cX1_countOfShip 33 = .ok (.aload_n 1, 1) := by decide +kernel
theorem dX1_countOfShip_34 : decode cX1_countOfShip 34 = .ok (.iload 4, 2) := by decide +kernel
theorem dX1_countOfShip_36 : decode cX1_countOfShip 36 = .ok (.baload, 1) := by decide +kernel
theorem dX1_countOfShip_37 : decode cX1_countOfShip 37 = .ok (.ifCond .eq 6, 3) := by decide +kernel
theorem dX1_countOfShip_40 : decode cX1_countOfShip 40 = .ok (.iinc 3 1, 3) := by decide +kernel
theorem dX1_countOfShip_43 : decode cX1_countOfShip 43 = .ok (.iinc 4 1, 3) := by decide +kernel
theorem dX1_countOfShip_46 : decode cX1_countOfShip 46 = .ok (.goto (-41), 3) := by decide +kernel
theorem dX1_countOfShip_49 : decode cX1_countOfShip 49 = .ok (.iload_n 3, 1) := by decide +kernel
theorem dX1_countOfShip_50 : decode cX1_countOfShip 50 = .ok (.ireturn, 1) := by decide +kernel
theorem dX2_init_0 : decode cX2_init 0 = .ok (.aload_n 0, 1) := by decide +kernel
theorem dX2_init_1 : decode cX2_init 1 = .ok (.invokespecial 1, 3) := by decide +kernel
theorem dX2_init_4 : decode cX2_init 4 = .ok (.new 7, 3) := by decide +kernel
theorem dX2_init_7 : decode cX2_init 7 = .ok (.dup, 1) := by decide +kernel
theorem dX2_init_8 : decode cX2_init 8 = .ok (.invokespecial 9, 3) := by decide +kernel
theorem dX2_init_11 : decode cX2_init 11 = .ok (.astore_n 1, 1) := by decide +kernel
theorem dX2_init_12 : decode cX2_init 12 = .ok (.aload_n 0, 1) := by decide +kernel
theorem dX2_init_13 : decode cX2_init 13 = .ok (.aload_n 1, 1) := by decide +kernel
theorem dX2_init_14 : decode cX2_init 14 = .ok (.putfield 10, 3) := by decide +kernel
theorem dX2_init_17 : decode cX2_init 17 = .ok (.aload_n 0, 1) := by decide +kernel
theorem dX2_init_18 : decode cX2_init 18 = .ok (.new 16, 3) := by decide +kernel
theorem dX2_init_21 : decode cX2_init 21 = .ok (.dup, 1) := by decide +kernel
theorem dX2_init_22 : decode cX2_init 22 = .ok (.aload_n 1, 1) := by decide +kernel
theorem dX2_init_23 : decode cX2_init 23 = .ok (.invokespecial 18, 3) := by decide +kernel
theorem dX2_init_26 : decode cX2_init 26 = .ok (.putfield 21, 3) := by decide +kernel
theorem dX2_init_29 : decode cX2_init 29 = .ok (.aload_n 0, 1) := by decide +kernel
theorem dX2_init_30 : decode cX2_init 30 = .ok (.new 16, 3) := by decide +kernel
theorem dX2_init_33 : decode cX2_init 33 = .ok (.dup, 1) := by decide +kernel
theorem dX2_init_34 : decode cX2_init 34 = .ok (.aload_n 1, 1) := by decide +kernel
theorem dX2_init_35 : decode cX2_init 35 = .ok (.invokespecial 18, 3) := by decide +kernel
theorem dX2_init_38 : decode cX2_init 38 = .ok (.putfield 25, 3) := by decide +kernel
theorem dX2_init_41 : decode cX2_init 41 = .ok (.return_, 1) := by decide +kernel
theorem dX2_addShip_0 : decode cX2_addShip 0 = .ok (.iload_n 1, 1) := by decide +kernel
theorem dX2_addShip_1 : decode cX2_addShip 1 = .ok (.iconst 1, 1) := by decide +kernel
theorem dX2_addShip_2 : decode cX2_addShip 2 = .ok (.if_icmp .lt 8, 3) := by decide +kernel
theorem dX2_addShip_5 : decode cX2_addShip 5 = .ok (.iload_n 1, 1) := by decide +kernel
theorem dX2_addShip_6 : decode cX2_addShip 6 = .ok (.iconst 3, 1) := by decide +kernel
theorem dX2_addShip_7 : decode cX2_addShip 7 = .ok (.if_icmp .le 13, 3) := by decide +kernel
theorem dX2_addShip_10 : decode cX2_addShip 10 = .ok (.new 28, 3) := by decide +kernel
theorem dX2_addShip_13 : decode cX2_addShip 13 = .ok (.dup, 1) := by decide +kernel
theorem dX2_addShip_14 : decode cX2_addShip 14 = .ok (.ldc 30, 2) := by decide +kernel
theorem dX2_addShip_16 : decode cX2_addShip 16 = .ok (.invokespecial 32, 3) := by decide +kernel
theorem dX2_addShip_19 : decode cX2_addShip 19 = .ok (.athrow, 1) := by decide +kernel
theorem dX2_addShip_20 : decode cX2_addShip 20 = .ok (.aload_n 0, 1) := by decide +kernel
theorem dX2_addShip_21 : decode cX2_addShip 21 = .ok (.getfield 10, 3) := by decide +kernel
theorem dX2_addShip_24 : decode cX2_addShip 24 = .ok (.getfield 35, 3) := by decide +kernel
theorem dX2_addShip_27 : decode cX2_addShip 27 = .ok (.iconst 5, 1) := by decide +kernel
theorem dX2_addShip_28 : decode cX2_addShip 28 = .ok (.if_icmp .lt 13, 3) := by decide +kernel
theorem dX2_addShip_31 : decode cX2_addShip 31 = .ok (.new 39, 3) := by decide +kernel
theorem dX2_addShip_34 : decode cX2_addShip 34 = .ok (.dup, 1) := by decide +kernel
theorem dX2_addShip_35 : decode cX2_addShip 35 = .ok (.ldc 41, 2) := by decide +kernel
theorem dX2_addShip_37 : decode cX2_addShip 37 = .ok (.invokespecial 43, 3) := by decide +kernel
theorem dX2_addShip_40 : decode cX2_addShip 40 = .ok (.athrow, 1) := by decide +kernel
theorem dX2_addShip_41 : decode cX2_addShip 41 = .ok (.aload_n 0, 1) := by decide +kernel
theorem dX2_addShip_42 : decode cX2_addShip 42 = .ok (.getfield 10, 3) := by decide +kernel
theorem dX2_addShip_45 : decode cX2_addShip 45 = .ok (.iload_n 1, 1) := by decide +kernel
theorem dX2_addShip_46 : decode cX2_addShip 46 = .ok (.invokevirtual 44, 3) := by decide +kernel
theorem dX2_addShip_49 : decode cX2_addShip 49 = .ok (.ireturn, 1) := by decide +kernel
theorem dX2_addSailor_0 : decode cX2_addSailor 0 = .ok (.aload_n 0, 1) := by decide +kernel
theorem dX2_addSailor_1 : decode cX2_addSailor 1 = .ok (.iload_n 1, 1) := by decide +kernel
theorem dX2_addSailor_2 : decode cX2_addSailor 2 = .ok (.invokevirtual 48, 3) := by decide +kernel
theorem dX2_addSailor_5 : decode cX2_addSailor 5 = .ok (.iload_n 2, 1) := by decide +kernel
theorem dX2_addSailor_6 : decode cX2_addSailor 6 = .ok (.ifCond .lt 18, 3) := by decide +kernel
theorem dX2_addSailor_9 : decode cX2_addSailor 9 = .ok (.iload_n 2, 1) := by decide +kernel
theorem dX2_addSailor_10 : decode cX2_addSailor 10 = .ok (.aload_n 0, 1) := by decide +kernel
theorem dX2_addSailor_11 : decode cX2_addSailor 11 = .ok (.getfield 10, 3) := by decide +kernel
theorem dX2_addSailor_14 : decode cX2_addSailor 14 = .ok (.getfield 52, 3) := by decide +kernel
theorem dX2_addSailor_17 : decode cX2_addSailor 17 = .ok (.iload_n 1, 1) := by decide +kernel
theorem dX2_addSailor_18 : decode cX2_addSailor 18 = .ok (.invokestatic 56, 3) := by decide +kernel
theorem dX2_addSailor_21 : decode cX2_addSailor 21 = .ok (.if_icmp .lt 13, 3) := by decide +kernel
theorem dX2_addSailor_24 : decode cX2_addSailor 24 = .ok (.new 60, 3) := by decide +kernel
theorem dX2_addSailor_27 : decode cX2_addSailor 27 = .ok (.dup, 1) := by decide +kernel
theorem dX2_addSailor_28 : decode cX2_addSailor 28 = .ok (.ldc 62, 2) := by decide +kernel
theorem dX2_addSailor_30 : decode cX2_addSailor 30 = .ok (.invokespecial 64, 3) := by decide +kernel
theorem dX2_addSailor_33 : decode cX2_addSailor 33 = .ok (.athrow, 1) := by decide +kernel
theorem dX2_addSailor_34 : decode cX2_addSailor 34 = .ok (.aload_n 0, 1) := by decide +kernel
theorem dX2_addSailor_35 : decode cX2_addSailor 35 = .ok (.getfield 21, 3) := by decide +kernel
theorem dX2_addSailor_38 : decode cX2_addSailor 38 = .ok (.iload_n 1, 1) := by decide +kernel
theorem dX2_addSailor_39 : decode cX2_addSailor 39 = .ok (.invokevirtual 65, 3) := by decide +kernel
theorem dX2_addSailor_42 : decode cX2_addSailor 42 = .ok (.ifCond .eq 13, 3) := by decide +kernel
theorem dX2_addSailor_45 : decode cX2_addSailor 45 = .ok (.new 39, 3) := by decide +kernel
theorem dX2_addSailor_48 : decode cX2_addSailor 48 = .ok (.dup, 1) := by decide +kernel
theorem dX2_addSailor_49 : decode cX2_addSailor 49 = .ok (.ldc 68, 2) := by decide +kernel
theorem dX2_addSailor_51 : decode cX2_addSailor 51 = .ok (.invokespecial 43, 3) := by decide +kernel
theorem dX2_addSailor_54 : decode cX2_addSailor 54 = .ok (.athrow, 1) := by decide +kernel
theorem dX2_addSailor_55 : decode cX2_addSailor 55 = .ok (.aload_n 0, 1) := by decide +kernel
theorem dX2_addSailor_56 : decode cX2_addSailor 56 = .ok (.getfield 10, 3) := by decide +kernel
theorem dX2_addSailor_59 : decode cX2_addSailor 59 = .ok (.getfield 70, 3) := by decide +kernel
theorem dX2_addSailor_62 : decode cX2_addSailor 62 = .ok (.bipush 16, 2) := by decide +kernel
theorem dX2_addSailor_64 : decode cX2_addSailor 64 = .ok (.if_icmp .lt 13, 3) := by decide +kernel
theorem dX2_addSailor_67 : decode cX2_addSailor 67 = .ok (.new 39, 3) := by decide +kernel
theorem dX2_addSailor_70 : decode cX2_addSailor 70 = .ok (.dup, 1) := by decide +kernel
theorem dX2_addSailor_71 : decode cX2_addSailor 71 = .ok (.ldc 73, 2) := by decide +kernel
theorem dX2_addSailor_73 : decode cX2_addSailor 73 = .ok (.invokespecial 43, 3) := by decide +kernel
theorem dX2_addSailor_76 : decode cX2_addSailor 76 = .ok (.athrow, 1) := by decide +kernel
theorem dX2_addSailor_77 : decode cX2_addSailor 77 = .ok (.aload_n 0, 1) := by decide +kernel
theorem dX2_addSailor_78 : decode cX2_addSailor 78 = .ok (.getfield 10, 3) := by decide +kernel
theorem dX2_addSailor_81 : decode cX2_addSailor 81 = .ok (.iload_n 1, 1) := by decide +kernel
theorem dX2_addSailor_82 : decode cX2_addSailor 82 = .ok (.iload_n 2, 1) := by decide +kernel
theorem dX2_addSailor_83 : decode cX2_addSailor 83 = .ok (.iload_n 3, 1) := by decide +kernel
theorem dX2_addSailor_84 : decode cX2_addSailor 84 = .ok (.invokevirtual 75, 3) := by decide +kernel
theorem dX2_addSailor_87 : decode cX2_addSailor 87 = .ok (.ireturn, 1) := by decide +kernel
theorem dX2_addWatcher_0 : decode cX2_addWatcher 0 = .ok (.aload_n 0, 1) := by decide +kernel
theorem dX2_addWatcher_1 : decode cX2_addWatcher 1 = .ok (.getfield 10, 3) := by decide +kernel
theorem dX2_addWatcher_4 : decode cX2_addWatcher 4 = .ok (.getfield 79, 3) := by decide +kernel
theorem dX2_addWatcher_7 : decode cX2_addWatcher 7 = .ok (.iconst 4, 1) := by decide +kernel
theorem dX2_addWatcher_8 : decode cX2_addWatcher 8 = .ok (.if_icmp .lt 13, 3) := by decide +kernel
theorem dX2_addWatcher_11 : decode cX2_addWatcher 11 = .ok (.new 39, 3) := by decide +kernel
theorem dX2_addWatcher_14 : decode cX2_addWatcher 14 = .ok (.dup, 1) := by decide +kernel
theorem dX2_addWatcher_15 : decode cX2_addWatcher 15 = .ok (.ldc 82, 2) := by decide +kernel
theorem dX2_addWatcher_17 : decode cX2_addWatcher 17 = .ok (.invokespecial 43, 3) := by decide +kernel
theorem dX2_addWatcher_20 : decode cX2_addWatcher 20 = .ok (.athrow, 1) := by decide +kernel
theorem dX2_addWatcher_21 : decode cX2_addWatcher 21 = .ok (.aload_n 0, 1) := by decide +kernel
theorem dX2_addWatcher_22 : decode cX2_addWatcher 22 = .ok (.getfield 10, 3) := by decide +kernel
theorem dX2_addWatcher_25 : decode cX2_addWatcher 25 = .ok (.invokevirtual 84, 3) := by decide +kernel
theorem dX2_addWatcher_28 : decode cX2_addWatcher 28 = .ok (.istore_n 1, 1) := by decide +kernel
theorem dX2_addWatcher_29 : decode cX2_addWatcher 29 = .ok (.aload_n 0, 1) := by decide +kernel
theorem dX2_addWatcher_30 : decode cX2_addWatcher 30 = .ok (.getfield 21, 3) := by decide +kernel
theorem dX2_addWatcher_33 : decode cX2_addWatcher 33 = .ok (.getfield 88, 3) := by decide +kernel
theorem dX2_addWatcher_36 : decode cX2_addWatcher 36 = .ok (.iload_n 1, 1) := by decide +kernel
theorem dX2_addWatcher_37 : decode cX2_addWatcher 37 = .ok (.iconst 5, 1) := by decide +kernel
theorem dX2_addWatcher_38 : decode cX2_addWatcher 38 = .ok (.invokestatic 91, 3) := by decide +kernel
theorem dX2_addWatcher_41 : decode cX2_addWatcher 41 = .ok (.iload_n 1, 1) := by decide +kernel
theorem dX2_addWatcher_42 : decode cX2_addWatcher 42 = .ok (.ireturn, 1) := by decide +kernel
theorem dX2_buyWax_0 : decode cX2_buyWax 0 = .ok (.iload_n 1, 1) := by decide +kernel
theorem dX2_buyWax_1 : decode cX2_buyWax 1 = .ok (.iconst 1, 1) := by decide +kernel
theorem dX2_buyWax_2 : decode cX2_buyWax 2 = .ok (.if_icmp .lt 10, 3) := by decide +kernel
theorem dX2_buyWax_5 : decode cX2_buyWax 5 = .ok (.iload_n 1, 1) := by decide +kernel
theorem dX2_buyWax_6 : decode cX2_buyWax 6 = .ok (.sipush 500, 3) := by decide +kernel
theorem dX2_buyWax_9 : decode cX2_buyWax 9 = .ok (.if_icmp .le 13, 3) := by decide +kernel
theorem dX2_buyWax_12 : decode cX2_buyWax 12 = .ok (.new 28, 3) := by decide +kernel
theorem dX2_buyWax_15 : decode cX2_buyWax 15 = .ok (.dup, 1) := by decide +kernel
theorem dX2_buyWax_16 : decode cX2_buyWax 16 = .ok (.ldc 95, 2) := by decide +kernel
theorem dX2_buyWax_18 : decode cX2_buyWax 18 = .ok (.invokespecial 32, 3) := by decide +kernel
theorem dX2_buyWax_21 : decode cX2_buyWax 21 = .ok (.athrow, 1) := by decide +kernel
theorem dX2_buyWax_22 : decode cX2_buyWax 22 = .ok (.aload_n 0, 1) := by decide +kernel
theorem dX2_buyWax_23 : decode cX2_buyWax 23 = .ok (.getfield 21, 3) := by decide +kernel
theorem dX2_buyWax_26 : decode cX2_buyWax 26 = .ok (.dup, 1) := by decide +kernel
theorem dX2_buyWax_27 : decode cX2_buyWax 27 = .ok (.getfield 97, 3) := by decide +kernel
theorem dX2_buyWax_30 : decode cX2_buyWax 30 = .ok (.iload_n 1, 1) := by decide +kernel
theorem dX2_buyWax_31 : decode cX2_buyWax 31 = .ok (.iadd, 1) := by decide +kernel
theorem dX2_buyWax_32 : decode cX2_buyWax 32 = .ok (.putfield 97, 3) := by decide +kernel
theorem dX2_buyWax_35 : decode cX2_buyWax 35 = .ok (.aload_n 0, 1) := by decide +kernel
theorem dX2_buyWax_36 : decode cX2_buyWax 36 = .ok (.getfield 21, 3) := by decide +kernel
theorem dX2_buyWax_39 : decode cX2_buyWax 39 = .ok (.getfield 97, 3) := by decide +kernel
theorem dX2_buyWax_42 : decode cX2_buyWax 42 = .ok (.ireturn, 1) := by decide +kernel
theorem dX2_sail_0 : decode cX2_sail 0 = .ok (.aload_n 0, 1) := by decide +kernel
theorem dX2_sail_1 : decode cX2_sail 1 = .ok (.iload_n 1, 1) := by decide +kernel
theorem dX2_sail_2 : decode cX2_sail 2 = .ok (.invokevirtual 48, 3) := by decide +kernel
theorem dX2_sail_5 : decode cX2_sail 5 = .ok (.aload_n 0, 1) := by decide +kernel
theorem dX2_sail_6 : decode cX2_sail 6 = .ok (.getfield 21, 3) := by decide +kernel
theorem dX2_sail_9 : decode cX2_sail 9 = .ok (.iload_n 1, 1) := by decide +kernel
theorem dX2_sail_10 : decode cX2_sail 10 = .ok (.invokevirtual 65, 3) := by decide +kernel
theorem dX2_sail_13 : decode cX2_sail 13 = .ok (.ifCond .eq 13, 3) := by decide +kernel
theorem dX2_sail_16 : decode cX2_sail 16 = .ok (.new 39, 3) := by decide +kernel
theorem dX2_sail_19 : decode cX2_sail 19 = .ok (.dup, 1) := by decide +kernel
theorem dX2_sail_20 : decode cX2_sail 20 = .ok (.ldc 68, 2) := by decide +kernel
theorem dX2_sail_22 : decode cX2_sail 22 = .ok (.invokespecial 43, 3) := by decide +kernel
theorem dX2_sail_25 : decode cX2_sail 25 = .ok (.athrow, 1) := by decide +kernel
theorem dX2_sail_26 : decode cX2_sail 26 = .ok (.aload_n 0, 1) := by decide +kernel
theorem dX2_sail_27 : decode cX2_sail 27 = .ok (.getfield 10, 3) := by decide +kernel
theorem dX2_sail_30 : decode cX2_sail 30 = .ok (.iload_n 1, 1) := by decide +kernel
theorem dX2_sail_31 : decode cX2_sail 31 = .ok (.invokevirtual 100, 3) := by decide +kernel
theorem dX2_sail_34 : decode cX2_sail 34 = .ok (.aload_n 0, 1) := by decide +kernel
theorem dX2_sail_35 : decode cX2_sail 35 = .ok (.getfield 21, 3) := by decide +kernel
theorem dX2_sail_38 : decode cX2_sail 38 = .ok (.iload_n 1, 1) := by decide +kernel
theorem dX2_sail_39 : decode cX2_sail 39 = .ok (.invokevirtual 103, 3) := by decide +kernel
theorem dX2_sail_42 : decode cX2_sail 42 = .ok (.ireturn, 1) := by decide +kernel
theorem dX2_comeHome_0 : decode cX2_comeHome 0 = .ok (.aload_n 0, 1) := by decide +kernel
theorem dX2_comeHome_1 : decode cX2_comeHome 1 = .ok (.iload_n 1, 1) := by decide +kernel
theorem dX2_comeHome_2 : decode cX2_comeHome 2 = .ok (.invokevirtual 48, 3) := by decide +kernel
theorem dX2_comeHome_5 : decode cX2_comeHome 5 = .ok (.aload_n 0, 1) := by decide +kernel
theorem dX2_comeHome_6 : decode cX2_comeHome 6 = .ok (.getfield 21, 3) := by decide +kernel
theorem dX2_comeHome_9 : decode cX2_comeHome 9 = .ok (.iload_n 1, 1) := by decide +kernel
theorem dX2_comeHome_10 : decode cX2_comeHome 10 = .ok (.invokevirtual 65, 3) := by decide +kernel
theorem dX2_comeHome_13 : decode cX2_comeHome 13 = .ok (.ifCond .ne 13, 3) := by decide +kernel
theorem dX2_comeHome_16 : decode cX2_comeHome 16 = .ok (.new 39, 3) := by decide +kernel
theorem dX2_comeHome_19 : decode cX2_comeHome 19 = .ok (.dup, 1) := by decide +kernel
theorem dX2_comeHome_20 : decode cX2_comeHome 20 = .ok (.ldc 106, 2) := by decide +kernel
theorem dX2_comeHome_22 : decode cX2_comeHome 22 = .ok (.invokespecial 43, 3) := by decide +kernel
theorem dX2_comeHome_25 : decode cX2_comeHome 25 = .ok (.athrow, 1) := by decide +kernel
theorem dX2_comeHome_26 : decode cX2_comeHome 26 = .ok (.aload_n 0, 1) := by decide +kernel
theorem dX2_comeHome_27 : decode cX2_comeHome 27 = .ok (.getfield 21, 3) := by decide +kernel
theorem dX2_comeHome_30 : decode cX2_comeHome 30 = .ok (.iload_n 1, 1) := by decide +kernel
theorem dX2_comeHome_31 : decode cX2_comeHome 31 = .ok (.invokevirtual 108, 3) := by decide +kernel
theorem dX2_comeHome_34 : decode cX2_comeHome 34 = .ok (.aload_n 0, 1) := by decide +kernel
theorem dX2_comeHome_35 : decode cX2_comeHome 35 = .ok (.getfield 21, 3) := by decide +kernel
theorem dX2_comeHome_38 : decode cX2_comeHome 38 = .ok (.iload_n 1, 1) := by decide +kernel
theorem dX2_comeHome_39 : decode cX2_comeHome 39 = .ok (.iconst 0, 1) := by decide +kernel
theorem dX2_comeHome_40 : decode cX2_comeHome 40 = .ok (.invokevirtual 111, 3) := by decide +kernel
theorem dX2_comeHome_43 : decode cX2_comeHome 43 = .ok (.aload_n 0, 1) := by decide +kernel
theorem dX2_comeHome_44 : decode cX2_comeHome 44 = .ok (.getfield 21, 3) := by decide +kernel
theorem dX2_comeHome_47 : decode cX2_comeHome 47 = .ok (.getfield 115, 3) := by decide +kernel
theorem dX2_comeHome_50 : decode cX2_comeHome 50 = .ok (.iload_n 1, 1) := by decide +kernel
theorem dX2_comeHome_51 : decode cX2_comeHome 51 = .ok (.invokestatic 56, 3) := by decide +kernel
theorem dX2_comeHome_54 : decode cX2_comeHome 54 = .ok (.ireturn, 1) := by decide +kernel
theorem dX2_sight_0 : decode cX2_sight 0 = .ok (.aload_n 0, 1) := by decide +kernel
theorem dX2_sight_1 : decode cX2_sight 1 = .ok (.iload_n 1, 1) := by decide +kernel
theorem dX2_sight_2 : decode cX2_sight 2 = .ok (.iload_n 2, 1) := by decide +kernel
theorem dX2_sight_3 : decode cX2_sight 3 = .ok (.invokevirtual 118, 3) := by decide +kernel
theorem dX2_sight_6 : decode cX2_sight 6 = .ok (.aload_n 0, 1) := by decide +kernel
theorem dX2_sight_7 : decode cX2_sight 7 = .ok (.getfield 21, 3) := by decide +kernel
theorem dX2_sight_10 : decode cX2_sight 10 = .ok (.iload_n 1, 1) := by decide +kernel
theorem dX2_sight_11 : decode cX2_sight 11 = .ok (.iload_n 2, 1) := by decide +kernel
theorem dX2_sight_12 : decode cX2_sight 12 = .ok (.invokevirtual 121, 3) := by decide +kernel
theorem dX2_sight_15 : decode cX2_sight 15 = .ok (.aload_n 0, 1) := by decide +kernel
theorem dX2_sight_16 : decode cX2_sight 16 = .ok (.getfield 21, 3) := by decide +kernel
theorem dX2_sight_19 : decode cX2_sight 19 = .ok (.getfield 124, 3) := by decide +kernel
theorem dX2_sight_22 : decode cX2_sight 22 = .ok (.iload_n 2, 1) := by decide +kernel
theorem dX2_sight_23 : decode cX2_sight 23 = .ok (.invokestatic 128, 3) := by decide +kernel
theorem dX2_sight_26 : decode cX2_sight 26 = .ok (.ireturn, 1) := by decide +kernel
theorem dX2_vote_0 : decode cX2_vote 0 = .ok (.aload_n 0, 1) := by decide +kernel
theorem dX2_vote_1 : decode cX2_vote 1 = .ok (.iload_n 1, 1) := by decide +kernel
theorem dX2_vote_2 : decode cX2_vote 2 = .ok (.invokevirtual 132, 3) := by decide +kernel
theorem dX2_vote_5 : decode cX2_vote 5 = .ok (.aload_n 0, 1) := by decide +kernel
theorem dX2_vote_6 : decode cX2_vote 6 = .ok (.getfield 10, 3) := by decide +kernel
theorem dX2_vote_9 : decode cX2_vote 9 = .ok (.getfield 135, 3) := by decide +kernel
theorem dX2_vote_12 : decode cX2_vote 12 = .ok (.iload_n 1, 1) := by decide +kernel
theorem dX2_vote_13 : decode cX2_vote 13 = .ok (.invokestatic 128, 3) := by decide +kernel
theorem dX2_vote_16 : decode cX2_vote 16 = .ok (.ifCond .ne 13, 3) := by decide +kernel
theorem dX2_vote_19 : decode cX2_vote 19 = .ok (.new 39, 3) := by decide +kernel
theorem dX2_vote_22 : decode cX2_vote 22 = .ok (.dup, 1) := by decide +kernel
theorem dX2_vote_23 : decode cX2_vote 23 = .ok (.ldc 138, 2) := by decide +kernel
theorem dX2_vote_25 : decode cX2_vote 25 = .ok (.invokespecial 43, 3) := by decide +kernel
theorem dX2_vote_28 : decode cX2_vote 28 = .ok (.athrow, 1) := by decide +kernel
theorem dX2_vote_29 : decode cX2_vote 29 = .ok (.aload_n 0, 1) := by decide +kernel
theorem dX2_vote_30 : decode cX2_vote 30 = .ok (.getfield 10, 3) := by decide +kernel
theorem dX2_vote_33 : decode cX2_vote 33 = .ok (.iload_n 1, 1) := by decide +kernel
theorem dX2_vote_34 : decode cX2_vote 34 = .ok (.invokevirtual 140, 3) := by decide +kernel
theorem dX2_vote_37 : decode cX2_vote 37 = .ok (.istore_n 3, 1) := by decide +kernel
theorem dX2_vote_38 : decode cX2_vote 38 = .ok (.aload_n 0, 1) := by decide +kernel
theorem dX2_vote_39 : decode cX2_vote 39 = .ok (.getfield 21, 3) := by decide +kernel
theorem dX2_vote_42 : decode cX2_vote 42 = .ok (.iload_n 3, 1) := by decide +kernel
theorem dX2_vote_43 : decode cX2_vote 43 = .ok (.invokevirtual 65, 3) := by decide +kernel
theorem dX2_vote_46 : decode cX2_vote 46 = .ok (.iconst 1, 1) := by decide +kernel
theorem dX2_vote_47 : decode cX2_vote 47 = .ok (.if_icmp .eq 13, 3) := by decide +kernel
theorem dX2_vote_50 : decode cX2_vote 50 = .ok (.new 39, 3) := by decide +kernel
theorem dX2_vote_53 : decode cX2_vote 53 = .ok (.dup, 1) := by decide +kernel
theorem dX2_vote_54 : decode cX2_vote 54 = .ok (.ldc 143, 2) := by decide +kernel
theorem dX2_vote_56 : decode cX2_vote 56 = .ok (.invokespecial 43, 3) := by decide +kernel
theorem dX2_vote_59 : decode cX2_vote 59 = .ok (.athrow, 1) := by decide +kernel
theorem dX2_vote_60 : decode cX2_vote 60 = .ok (.aload_n 0, 1) := by decide +kernel
theorem dX2_vote_61 : decode cX2_vote 61 = .ok (.getfield 10, 3) := by decide +kernel
theorem dX2_vote_64 : decode cX2_vote 64 = .ok (.getfield 145, 3) := by decide +kernel
theorem dX2_vote_67 : decode cX2_vote 67 = .ok (.iload_n 1, 1) := by decide +kernel
theorem dX2_vote_68 : decode cX2_vote 68 = .ok (.iload_n 2, 1) := by decide +kernel
theorem dX2_vote_69 : decode cX2_vote 69 = .ok (.invokestatic 148, 3) := by decide +kernel
theorem dX2_vote_72 : decode cX2_vote 72 = .ok (.aload_n 0, 1) := by decide +kernel
theorem dX2_vote_73 : decode cX2_vote 73 = .ok (.getfield 10, 3) := by decide +kernel
theorem dX2_vote_76 : decode cX2_vote 76 = .ok (.iload_n 3, 1) := by decide +kernel
theorem dX2_vote_77 : decode cX2_vote 77 = .ok (.invokevirtual 152, 3) := by decide +kernel
theorem dX2_vote_80 : decode cX2_vote 80 = .ok (.ireturn, 1) := by decide +kernel
theorem dX2_burnNights_0 : decode cX2_burnNights 0 = .ok (.iload_n 1, 1) := by decide +kernel
theorem dX2_burnNights_1 : decode cX2_burnNights 1 = .ok (.bipush 60, 2) := by decide +kernel
theorem dX2_burnNights_3 : decode cX2_burnNights 3 = .ok (.invokestatic 155, 3) := by decide +kernel
theorem dX2_burnNights_6 : decode cX2_burnNights 6 = .ok (.aload_n 0, 1) := by decide +kernel
theorem dX2_burnNights_7 : decode cX2_burnNights 7 = .ok (.getfield 21, 3) := by decide +kernel
theorem dX2_burnNights_10 : decode cX2_burnNights 10 = .ok (.iload_n 1, 1) := by decide +kernel
theorem dX2_burnNights_11 : decode cX2_burnNights 11 = .ok (.invokevirtual 158, 3) := by decide +kernel
theorem dX2_burnNights_14 : decode cX2_burnNights 14 = .ok (.ireturn, 1) := by decide +kernel
theorem dX2_ships_0 : decode cX2_ships 0 = .ok (.aload_n 0, 1) := by decide +kernel
theorem dX2_ships_1 : decode cX2_ships 1 = .ok (.getfield 10, 3) := by decide +kernel
theorem dX2_ships_4 : decode cX2_ships 4 = .ok (.getfield 35, 3) := by decide +kernel
theorem dX2_ships_7 : decode cX2_ships 7 = .ok (.ireturn, 1) := by decide +kernel
theorem dX2_mastsOf_0 : decode cX2_mastsOf 0 = .ok (.aload_n 0, 1) := by decide +kernel
theorem dX2_mastsOf_1 : decode cX2_mastsOf 1 = .ok (.iload_n 1, 1) := by decide +kernel
theorem dX2_mastsOf_2 : decode cX2_mastsOf 2 = .ok (.invokevirtual 48, 3) := by decide +kernel
theorem dX2_mastsOf_5 : decode cX2_mastsOf 5 = .ok (.aload_n 0, 1) := by decide +kernel
theorem dX2_mastsOf_6 : decode cX2_mastsOf 6 = .ok (.getfield 10, 3) := by decide +kernel
theorem dX2_mastsOf_9 : decode cX2_mastsOf 9 = .ok (.getfield 52, 3) := by decide +kernel
theorem dX2_mastsOf_12 : decode cX2_mastsOf 12 = .ok (.iload_n 1, 1) := by decide +kernel
theorem dX2_mastsOf_13 : decode cX2_mastsOf 13 = .ok (.invokestatic 56, 3) := by decide +kernel
theorem dX2_mastsOf_16 : decode cX2_mastsOf 16 = .ok (.ireturn, 1) := by decide +kernel
theorem dX2_isAway_0 : decode cX2_isAway 0 = .ok (.aload_n 0, 1) := by decide +kernel
theorem dX2_isAway_1 : decode cX2_isAway 1 = .ok (.iload_n 1, 1) := by decide +kernel
theorem dX2_isAway_2 : decode cX2_isAway 2 = .ok (.invokevirtual 48, 3) := by decide +kernel
theorem dX2_isAway_5 : decode cX2_isAway 5 = .ok (.aload_n 0, 1) := by decide +kernel
theorem dX2_isAway_6 : decode cX2_isAway 6 = .ok (.getfield 21, 3) := by decide +kernel
theorem dX2_isAway_9 : decode cX2_isAway 9 = .ok (.iload_n 1, 1) := by decide +kernel
theorem dX2_isAway_10 : decode cX2_isAway 10 = .ok (.invokevirtual 65, 3) := by decide +kernel
theorem dX2_isAway_13 : decode cX2_isAway 13 = .ok (.ifCond .eq 7, 3) := by decide +kernel
theorem dX2_isAway_16 : decode cX2_isAway 16 = .ok (.iconst 1, 1) := by decide +kernel
theorem dX2_isAway_17 : decode cX2_isAway 17 = .ok (.goto 4, 3) := by decide +kernel
theorem dX2_isAway_20 : decode cX2_isAway 20 = .ok (.iconst 0, 1) := by decide +kernel
theorem dX2_isAway_21 : decode cX2_isAway 21 = .ok (.ireturn, 1) := by decide +kernel
theorem dX2_isLost_0 : decode cX2_isLost 0 = .ok (.aload_n 0, 1) := by decide +kernel
theorem dX2_isLost_1 : decode cX2_isLost 1 = .ok (.iload_n 1, 1) := by decide +kernel
theorem dX2_isLost_2 : decode cX2_isLost 2 = .ok (.invokevirtual 48, 3) := by decide +kernel
theorem dX2_isLost_5 : decode cX2_isLost 5 = .ok (.aload_n 0, 1) := by decide +kernel
theorem dX2_isLost_6 : decode cX2_isLost 6 = .ok (.getfield 21, 3) := by decide +kernel
theorem dX2_isLost_9 : decode cX2_isLost 9 = .ok (.iload_n 1, 1) := by decide +kernel
theorem dX2_isLost_10 : decode cX2_isLost 10 = .ok (.invokevirtual 65, 3) := by decide +kernel
theorem dX2_isLost_13 : decode cX2_isLost 13 = .ok (.iconst 2, 1) := by decide +kernel
theorem dX2_isLost_14 : decode cX2_isLost 14 = .ok (.if_icmp .ne 7, 3) := by decide +kernel
theorem dX2_isLost_17 : decode cX2_isLost 17 = .ok (.iconst 1, 1) := by decide +kernel
theorem dX2_isLost_18 : decode cX2_isLost 18 = .ok (.goto 4, 3) := by decide +kernel
theorem dX2_isLost_21 : decode cX2_isLost 21 = .ok (.iconst 0, 1) := by decide +kernel
theorem dX2_isLost_22 : decode cX2_isLost 22 = .ok (.ireturn, 1) := by decide +kernel
theorem dX2_nightsOut_0 : decode cX2_nightsOut 0 = .ok (.aload_n 0, 1) := by decide +kernel
theorem dX2_nightsOut_1 : decode cX2_nightsOut 1 = .ok (.iload_n 1, 1) := by decide +kernel
theorem dX2_nightsOut_2 : decode cX2_nightsOut 2 = .ok (.invokevirtual 48, 3) := by decide +kernel
theorem dX2_nightsOut_5 : decode cX2_nightsOut 5 = .ok (.aload_n 0, 1) := by decide +kernel
theorem dX2_nightsOut_6 : decode cX2_nightsOut 6 = .ok (.getfield 21, 3) := by decide +kernel
theorem dX2_nightsOut_9 : decode cX2_nightsOut 9 = .ok (.getfield 115, 3) := by decide +kernel
theorem dX2_nightsOut_12 : decode cX2_nightsOut 12 = .ok (.iload_n 1, 1) := by decide +kernel
theorem dX2_nightsOut_13 : decode cX2_nightsOut 13 = .ok (.invokestatic 56, 3) := by decide +kernel
theorem dX2_nightsOut_16 : decode cX2_nightsOut 16 = .ok (.ireturn, 1) := by decide +kernel
theorem dX2_isRung_0 : decode cX2_isRung 0 = .ok (.aload_n 0, 1) := by decide +kernel
theorem dX2_isRung_1 : decode cX2_isRung 1 = .ok (.iload_n 1, 1) := by decide +kernel
theorem dX2_isRung_2 : decode cX2_isRung 2 = .ok (.invokevirtual 48, 3) := by decide +kernel
theorem dX2_isRung_5 : decode cX2_isRung 5 = .ok (.aload_n 0, 1) := by decide +kernel
theorem dX2_isRung_6 : decode cX2_isRung 6 = .ok (.getfield 21, 3) := by decide +kernel
theorem dX2_isRung_9 : decode cX2_isRung 9 = .ok (.getfield 124, 3) := by decide +kernel
theorem dX2_isRung_12 : decode cX2_isRung 12 = .ok (.iload_n 1, 1) := by decide +kernel
theorem dX2_isRung_13 : decode cX2_isRung 13 = .ok (.invokestatic 128, 3) := by decide +kernel
theorem dX2_isRung_16 : decode cX2_isRung 16 = .ok (.ireturn, 1) := by decide +kernel
theorem dX2_trustIn_0 : decode cX2_trustIn 0 = .ok (.aload_n 0, 1) := by decide +kernel
theorem dX2_trustIn_1 : decode cX2_trustIn 1 = .ok (.iload_n 1, 1) := by decide +kernel
theorem dX2_trustIn_2 : decode cX2_trustIn 2 = .ok (.invokevirtual 48, 3) := by decide +kernel
theorem dX2_trustIn_5 : decode cX2_trustIn 5 = .ok (.aload_n 0, 1) := by decide +kernel
theorem dX2_trustIn_6 : decode cX2_trustIn 6 = .ok (.getfield 21, 3) := by decide +kernel
theorem dX2_trustIn_9 : decode cX2_trustIn 9 = .ok (.iload_n 1, 1) := by decide +kernel
theorem dX2_trustIn_10 : decode cX2_trustIn 10 = .ok (.invokevirtual 161, 3) := by decide +kernel
theorem dX2_trustIn_13 : decode cX2_trustIn 13 = .ok (.ireturn, 1) := by decide +kernel
theorem dX2_voters_0 : decode cX2_voters 0 = .ok (.aload_n 0, 1) := by decide +kernel
theorem dX2_voters_1 : decode cX2_voters 1 = .ok (.iload_n 1, 1) := by decide +kernel
theorem dX2_voters_2 : decode cX2_voters 2 = .ok (.invokevirtual 48, 3) := by decide +kernel
theorem dX2_voters_5 : decode cX2_voters 5 = .ok (.aload_n 0, 1) := by decide +kernel
theorem dX2_voters_6 : decode cX2_voters 6 = .ok (.getfield 10, 3) := by decide +kernel
theorem dX2_voters_9 : decode cX2_voters 9 = .ok (.iload_n 1, 1) := by decide +kernel
theorem dX2_voters_10 : decode cX2_voters 10 = .ok (.invokevirtual 164, 3) := by decide +kernel
theorem dX2_voters_13 : decode cX2_voters 13 = .ok (.ireturn, 1) := by decide +kernel
theorem dX2_votesForLost_0 : decode cX2_votesForLost 0 = .ok (.aload_n 0, 1) := by decide +kernel
theorem dX2_votesForLost_1 : decode cX2_votesForLost 1 = .ok (.iload_n 1, 1) := by decide +kernel
theorem dX2_votesForLost_2 : decode cX2_votesForLost 2 = .ok (.invokevirtual 48, 3) := by decide +kernel
theorem dX2_votesForLost_5 : decode cX2_votesForLost 5 = .ok (.aload_n 0, 1) := by decide +kernel
theorem dX2_votesForLost_6 : decode cX2_votesForLost 6 = .ok (.getfield 10, 3) := by decide +kernel
theorem dX2_votesForLost_9 : decode cX2_votesForLost 9 = .ok (.iload_n 1, 1) := by decide +kernel
theorem dX2_votesForLost_10 : decode cX2_votesForLost 10 = .ok (.invokevirtual 152, 3) := by decide +kernel
theorem dX2_votesForLost_13 : decode cX2_votesForLost 13 = .ok (.ireturn, 1) := by decide +kernel
theorem dX2_votesMissing_0 : decode cX2_votesMissing 0 = .ok (.aload_n 0, 1) := by decide +kernel
theorem dX2_votesMissing_1 : decode cX2_votesMissing 1 = .ok (.iload_n 1, 1) := by decide +kernel
theorem dX2_votesMissing_2 : decode cX2_votesMissing 2 = .ok (.invokevirtual 48, 3) := by decide +kernel
theorem dX2_votesMissing_5 : decode cX2_votesMissing 5 = .ok (.aload_n 0, 1) := by decide +kernel
theorem dX2_votesMissing_6 : decode cX2_votesMissing 6 = .ok (.getfield 10, 3) := by decide +kernel
theorem dX2_votesMissing_9 : decode cX2_votesMissing 9 = .ok (.iload_n 1, 1) := by decide +kernel
theorem dX2_votesMissing_10 : decode cX2_votesMissing 10 = .ok (.invokevirtual 167, 3) := by decide +kernel
theorem dX2_votesMissing_13 : decode cX2_votesMissing 13 = .ok (.ireturn, 1) := by decide +kernel
theorem dX2_sailors_0 : decode cX2_sailors 0 = .ok (.aload_n 0, 1) := by decide +kernel
theorem dX2_sailors_1 : decode cX2_sailors 1 = .ok (.getfield 10, 3) := by decide +kernel
theorem dX2_sailors_4 : decode cX2_sailors 4 = .ok (.getfield 70, 3) := by decide +kernel
theorem dX2_sailors_7 : decode cX2_sailors 7 = .ok (.ireturn, 1) := by decide +kernel
theorem dX2_shipOf_0 : decode cX2_shipOf 0 = .ok (.aload_n 0, 1) := by decide +kernel
theorem dX2_shipOf_1 : decode cX2_shipOf 1 = .ok (.iload_n 1, 1) := by decide +kernel
theorem dX2_shipOf_2 : decode cX2_shipOf 2 = .ok (.invokevirtual 132, 3) := by decide +kernel
theorem dX2_shipOf_5 : decode cX2_shipOf 5 = .ok (.aload_n 0, 1) := by decide +kernel
theorem dX2_shipOf_6 : decode cX2_shipOf 6 = .ok (.getfield 10, 3) := by decide +kernel
theorem dX2_shipOf_9 : decode cX2_shipOf 9 = .ok (.iload_n 1, 1) := by decide +kernel
theorem dX2_shipOf_10 : decode cX2_shipOf 10 = .ok (.invokevirtual 140, 3) := by decide +kernel
theorem dX2_shipOf_13 : decode cX2_shipOf 13 = .ok (.ireturn, 1) := by decide +kernel
theorem dX2_mastOf_0 : decode cX2_mastOf 0 = .ok (.aload_n 0, 1) := by decide +kernel
theorem dX2_mastOf_1 : decode cX2_mastOf 1 = .ok (.iload_n 1, 1) := by decide +kernel
theorem dX2_mastOf_2 : decode cX2_mastOf 2 = .ok (.invokevirtual 132, 3) := by decide +kernel
theorem dX2_mastOf_5 : decode cX2_mastOf 5 = .ok (.aload_n 0, 1) := by decide +kernel
theorem dX2_mastOf_6 : decode cX2_mastOf 6 = .ok (.getfield 10, 3) := by decide +kernel
theorem dX2_mastOf_9 : decode cX2_mastOf 9 = .ok (.getfield 170, 3) := by decide +kernel
theorem dX2_mastOf_12 : decode cX2_mastOf 12 = .ok (.iload_n 1, 1) := by decide +kernel
theorem dX2_mastOf_13 : decode cX2_mastOf 13 = .ok (.invokestatic 56, 3) := by decide +kernel
theorem dX2_mastOf_16 : decode cX2_mastOf 16 = .ok (.ireturn, 1) := by decide +kernel
theorem dX2_hasVoter_0 : decode cX2_hasVoter 0 = .ok (.aload_n 0, 1) := by decide +kernel
theorem dX2_hasVoter_1 : decode cX2_hasVoter 1 = .ok (.iload_n 1, 1) := by decide +kernel
theorem dX2_hasVoter_2 : decode cX2_hasVoter 2 = .ok (.invokevirtual 132, 3) := by decide +kernel
theorem dX2_hasVoter_5 : decode cX2_hasVoter 5 = .ok (.aload_n 0, 1) := by decide +kernel
theorem dX2_hasVoter_6 : decode cX2_hasVoter 6 = .ok (.getfield 10, 3) := by decide +kernel
theorem dX2_hasVoter_9 : decode cX2_hasVoter 9 = .ok (.getfield 135, 3) := by decide +kernel
theorem dX2_hasVoter_12 : decode cX2_hasVoter 12 = .ok (.iload_n 1, 1) := by decide +kernel
theorem dX2_hasVoter_13 : decode cX2_hasVoter 13 = .ok (.invokestatic 128, 3) := by decide +kernel
theorem dX2_hasVoter_16 : decode cX2_hasVoter 16 = .ok (.ireturn, 1) := by decide +kernel
theorem dX2_isGivenUp_0 : decode cX2_isGivenUp 0 = .ok (.aload_n 0, 1) := by decide +kernel
theorem dX2_isGivenUp_1 : decode cX2_isGivenUp 1 = .ok (.iload_n 1, 1) := by decide +kernel
theorem dX2_isGivenUp_2 : decode cX2_isGivenUp 2 = .ok (.invokevirtual 132, 3) := by decide +kernel
theorem dX2_isGivenUp_5 : decode cX2_isGivenUp 5 = .ok (.aload_n 0, 1) := by decide +kernel
theorem dX2_isGivenUp_6 : decode cX2_isGivenUp 6 = .ok (.getfield 10, 3) := by decide +kernel
theorem dX2_isGivenUp_9 : decode cX2_isGivenUp 9 = .ok (.getfield 145, 3) := by decide +kernel
theorem dX2_isGivenUp_12 : decode cX2_isGivenUp 12 = .ok (.iload_n 1, 1) := by decide +kernel
theorem dX2_isGivenUp_13 : decode cX2_isGivenUp 13 = .ok (.invokestatic 128, 3) := by decide +kernel
theorem dX2_isGivenUp_16 : decode cX2_isGivenUp 16 = .ok (.ireturn, 1) := by decide +kernel
theorem dX2_candleOf_0 : decode cX2_candleOf 0 = .ok (.aload_n 0, 1) := by decide +kernel
theorem dX2_candleOf_1 : decode cX2_candleOf 1 = .ok (.iload_n 1, 1) := by decide +kernel
theorem dX2_candleOf_2 : decode cX2_candleOf 2 = .ok (.invokevirtual 132, 3) := by decide +kernel
theorem dX2_candleOf_5 : decode cX2_candleOf 5 = .ok (.aload_n 0, 1) := by decide +kernel
theorem dX2_candleOf_6 : decode cX2_candleOf 6 = .ok (.getfield 21, 3) := by decide +kernel
theorem dX2_candleOf_9 : decode cX2_candleOf 9 = .ok (.getfield 173, 3) := by decide +kernel
theorem dX2_candleOf_12 : decode cX2_candleOf 12 = .ok (.iload_n 1, 1) := by decide +kernel
theorem dX2_candleOf_13 : decode cX2_candleOf 13 = .ok (.invokestatic 56, 3) := by decide +kernel
theorem dX2_candleOf_16 : decode cX2_candleOf 16 = .ok (.ireturn, 1) := by decide +kernel
theorem dX2_isDark_0 : decode cX2_isDark 0 = .ok (.aload_n 0, 1) := by decide +kernel
theorem dX2_isDark_1 : decode cX2_isDark 1 = .ok (.iload_n 1, 1) := by decide +kernel
theorem dX2_isDark_2 : decode cX2_isDark 2 = .ok (.invokevirtual 132, 3) := by decide +kernel
theorem dX2_isDark_5 : decode cX2_isDark 5 = .ok (.aload_n 0, 1) := by decide +kernel
theorem dX2_isDark_6 : decode cX2_isDark 6 = .ok (.getfield 21, 3) := by decide +kernel
theorem dX2_isDark_9 : decode cX2_isDark 9 = .ok (.iload_n 1, 1) := by decide +kernel
theorem dX2_isDark_10 : decode cX2_isDark 10 = .ok (.invokevirtual 176, 3) := by decide +kernel
theorem dX2_isDark_13 : decode cX2_isDark 13 = .ok (.ireturn, 1) := by decide +kernel
theorem dX2_watchers_0 : decode cX2_watchers 0 = .ok (.aload_n 0, 1) := by decide +kernel
theorem dX2_watchers_1 : decode cX2_watchers 1 = .ok (.getfield 10, 3) := by decide +kernel
theorem dX2_watchers_4 : decode cX2_watchers 4 = .ok (.getfield 79, 3) := by decide +kernel
theorem dX2_watchers_7 : decode cX2_watchers 7 = .ok (.ireturn, 1) := by decide +kernel
theorem dX2_trustOf_0 : decode cX2_trustOf 0 = .ok (.aload_n 0, 1) := by decide +kernel
theorem dX2_trustOf_1 : decode cX2_trustOf 1 = .ok (.iload_n 1, 1) := by decide +kernel
theorem dX2_trustOf_2 : decode cX2_trustOf 2 = .ok (.invokevirtual 180, 3) := by decide +kernel
theorem dX2_trustOf_5 : decode cX2_trustOf 5 = .ok (.aload_n 0, 1) := by decide +kernel
theorem dX2_trustOf_6 : decode cX2_trustOf 6 = .ok (.getfield 21, 3) := by decide +kernel
theorem dX2_trustOf_9 : decode cX2_trustOf 9 = .ok (.getfield 88, 3) := by decide +kernel
theorem dX2_trustOf_12 : decode cX2_trustOf 12 = .ok (.iload_n 1, 1) := by decide +kernel
theorem dX2_trustOf_13 : decode cX2_trustOf 13 = .ok (.invokestatic 56, 3) := by decide +kernel
theorem dX2_trustOf_16 : decode cX2_trustOf 16 = .ok (.ireturn, 1) := by decide +kernel
theorem dX2_sightings_0 : decode cX2_sightings 0 = .ok (.aload_n 0, 1) := by decide +kernel
theorem dX2_sightings_1 : decode cX2_sightings 1 = .ok (.getfield 21, 3) := by decide +kernel
theorem dX2_sightings_4 : decode cX2_sightings 4 = .ok (.invokevirtual 183, 3) := by decide +kernel
theorem dX2_sightings_7 : decode cX2_sightings 7 = .ok (.ireturn, 1) := by decide +kernel
theorem dX2_night_0 : decode cX2_night 0 = .ok (.aload_n 0, 1) := by decide +kernel
theorem dX2_night_1 : decode cX2_night 1 = .ok (.getfield 21, 3) := by decide +kernel
theorem dX2_night_4 : decode cX2_night 4 = .ok (.getfield 186, 3) := by decide +kernel
theorem dX2_night_7 : decode cX2_night 7 = .ok (.ireturn, 1) := by decide +kernel
theorem dX2_wax_0 : decode cX2_wax 0 = .ok (.aload_n 0, 1) := by decide +kernel
theorem dX2_wax_1 : decode cX2_wax 1 = .ok (.getfield 21, 3) := by decide +kernel
theorem dX2_wax_4 : decode cX2_wax 4 = .ok (.getfield 97, 3) := by decide +kernel
theorem dX2_wax_7 : decode cX2_wax 7 = .ok (.ireturn, 1) := by decide +kernel
theorem dX2_darkCandles_0 : decode cX2_darkCandles 0 = .ok (.aload_n 0, 1) := by decide +kernel
theorem dX2_darkCandles_1 : decode cX2_darkCandles 1 = .ok (.getfield 21, 3) := by decide +kernel
theorem dX2_darkCandles_4 : decode cX2_darkCandles 4 = .ok (.invokevirtual 189, 3) := by decide +kernel
theorem dX2_darkCandles_7 : decode cX2_darkCandles 7 = .ok (.ireturn, 1) := by decide +kernel
theorem dX2_bellsUnrung_0 : decode cX2_bellsUnrung 0 = .ok (.aload_n 0, 1) := by decide +kernel
theorem dX2_bellsUnrung_1 : decode cX2_bellsUnrung 1 = .ok (.getfield 21, 3) := by decide +kernel
theorem dX2_bellsUnrung_4 : decode cX2_bellsUnrung 4 = .ok (.getfield 192, 3) := by decide +kernel
theorem dX2_bellsUnrung_7 : decode cX2_bellsUnrung 7 = .ok (.ireturn, 1) := by decide +kernel
theorem dX2_namesOnWall_0 : decode cX2_namesOnWall 0 = .ok (.aload_n 0, 1) := by decide +kernel
theorem dX2_namesOnWall_1 : decode cX2_namesOnWall 1 = .ok (.getfield 21, 3) := by decide +kernel
theorem dX2_namesOnWall_4 : decode cX2_namesOnWall 4 = .ok (.invokevirtual 195, 3) := by decide +kernel
theorem dX2_namesOnWall_7 : decode cX2_namesOnWall 7 = .ok (.ireturn, 1) := by decide +kernel
theorem dX2_wouldRing_0 : decode cX2_wouldRing 0 = .ok (.aload_n 0, 1) := by decide +kernel
theorem dX2_wouldRing_1 : decode cX2_wouldRing 1 = .ok (.iload_n 1, 1) := by decide +kernel
theorem dX2_wouldRing_2 : decode cX2_wouldRing 2 = .ok (.iload_n 2, 1) := by decide +kernel
theorem dX2_wouldRing_3 : decode cX2_wouldRing 3 = .ok (.invokevirtual 118, 3) := by decide +kernel
theorem dX2_wouldRing_6 : decode cX2_wouldRing 6 = .ok (.aload_n 0, 1) := by decide +kernel
theorem dX2_wouldRing_7 : decode cX2_wouldRing 7 = .ok (.getfield 21, 3) := by decide +kernel
theorem dX2_wouldRing_10 : decode cX2_wouldRing 10 = .ok (.getfield 124, 3) := by decide +kernel
theorem dX2_wouldRing_13 : decode cX2_wouldRing 13 = .ok (.iload_n 2, 1) := by decide +kernel
theorem dX2_wouldRing_14 : decode cX2_wouldRing 14 = .ok (.invokestatic 128, 3) := by decide +kernel
theorem dX2_wouldRing_17 : decode cX2_wouldRing 17 = .ok (.ifCond .ne 28, 3) := by decide +kernel
theorem dX2_wouldRing_20 : decode cX2_wouldRing 20 = .ok (.aload_n 0, 1) := by decide +kernel
theorem dX2_wouldRing_21 : decode cX2_wouldRing 21 = .ok (.getfield 21, 3) := by decide +kernel
theorem dX2_wouldRing_24 : decode cX2_wouldRing 24 = .ok (.iload_n 2, 1) := by decide +kernel
theorem dX2_wouldRing_25 : decode cX2_wouldRing 25 = .ok (.invokevirtual 161, 3) := by decide +kernel
theorem dX2_wouldRing_28 : decode cX2_wouldRing 28 = .ok (.aload_n 0, 1) := by decide +kernel
theorem dX2_wouldRing_29 : decode cX2_wouldRing 29 = .ok (.getfield 21, 3) := by decide +kernel
theorem dX2_wouldRing_32 : decode cX2_wouldRing 32 = .ok (.getfield 88, 3) := by decide +kernel
theorem dX2_wouldRing_35 : decode cX2_wouldRing 35 = .ok (.iload_n 1, 1) := by decide +kernel
theorem dX2_wouldRing_36 : decode cX2_wouldRing 36 = .ok (.invokestatic 56, 3) := by decide +kernel
theorem dX2_wouldRing_39 : decode cX2_wouldRing 39 = .ok (.iadd, 1) := by decide +kernel
theorem dX2_wouldRing_40 : decode cX2_wouldRing 40 = .ok (.bipush 6, 2) := by decide +kernel
theorem dX2_wouldRing_42 : decode cX2_wouldRing 42 = .ok (.if_icmp .lt 7, 3) := by decide +kernel
theorem dX2_wouldRing_45 : decode cX2_wouldRing 45 = .ok (.iconst 1, 1) := by decide +kernel
theorem dX2_wouldRing_46 : decode cX2_wouldRing 46 = .ok (.goto 4, 3) := by decide +kernel
theorem dX2_wouldRing_49 : decode cX2_wouldRing 49 = .ok (.iconst 0, 1) := by decide +kernel
theorem dX2_wouldRing_50 : decode cX2_wouldRing 50 = .ok (.ireturn, 1) := by decide +kernel
theorem dX2_nightsUntilDark_0 : decode cX2_nightsUntilDark 0 = .ok (.aload_n 0, 1) := by decide +kernel
theorem dX2_nightsUntilDark_1 : decode cX2_nightsUntilDark 1 = .ok (.getfield 25, 3) := by decide +kernel
theorem dX2_nightsUntilDark_4 : decode cX2_nightsUntilDark 4 = .ok (.aload_n 0, 1) := by decide +kernel
theorem dX2_nightsUntilDark_5 : decode cX2_nightsUntilDark 5 = .ok (.getfield 21, 3) := by decide +kernel
theorem dX2_nightsUntilDark_8 : decode cX2_nightsUntilDark 8 = .ok (.invokevirtual 200, 3) := by decide +kernel
theorem dX2_nightsUntilDark_11 : decode cX2_nightsUntilDark 11 = .ok (.iconst 0, 1) := by decide +kernel
theorem dX2_nightsUntilDark_12 : decode cX2_nightsUntilDark 12 = .ok (.istore_n 1, 1) := by decide +kernel
theorem dX2_nightsUntilDark_13 : decode cX2_nightsUntilDark 13 = .ok (.iload_n 1, 1) := by decide +kernel
theorem dX2_nightsUntilDark_14 : decode cX2_nightsUntilDark 14 = .ok (.sipush 200, 3) := by decide +kernel
theorem dX2_nightsUntilDark_17 : decode cX2_nightsUntilDark 17 = .ok (.if_icmp .ge 29, 3) := by decide +kernel
theorem dX2_nightsUntilDark_20 : decode cX2_nightsUntilDark 20 = .ok (.aload_n 0, 1) := by decide +kernel
theorem dX2_nightsUntilDark_21 : decode cX2_nightsUntilDark 21 = .ok (.getfield 25, 3) := by decide +kernel
theorem dX2_nightsUntilDark_24 : decode cX2_nightsUntilDark 24 = .ok (.invokevirtual 189, 3) := by decide +kernel
theorem dX2_nightsUntilDark_27 : decode cX2_nightsUntilDark 27 = .ok (.ifCond .le 5, 3) := by decide +kernel
theorem dX2_nightsUntilDark_30 : decode cX2_nightsUntilDark 30 = .ok (.iload_n 1, 1) := by decide +kernel
theorem dX2_nightsUntilDark_31 : decode cX2_nightsUntilDark 31 = .ok (.ireturn, 1) := by decide +kernel
theorem dX2_nightsUntilDark_32 : decode cX2_nightsUntilDark 32 = .ok (.aload_n 0, 1) := by decide +kernel
theorem dX2_nightsUntilDark_33 : decode cX2_nightsUntilDark 33 = .ok (.getfield 25, 3) := by decide +kernel
theorem dX2_nightsUntilDark_36 : decode cX2_nightsUntilDark 36 = .ok (.invokevirtual 204, 3) := by decide +kernel
theorem dX2_nightsUntilDark_39 : decode cX2_nightsUntilDark 39 = .ok (.pop, 1) := by decide +kernel
theorem dX2_nightsUntilDark_40 : decode cX2_nightsUntilDark 40 = .ok (.iinc 1 1, 3) := by decide +kernel
theorem dX2_nightsUntilDark_43 : decode cX2_nightsUntilDark 43 = .ok (.goto (-30), 3) := by decide +kernel
theorem dX2_nightsUntilDark_46 : decode cX2_nightsUntilDark 46 = .ok (.aload_n 0, 1) := by decide +kernel
theorem dX2_nightsUntilDark_47 : decode cX2_nightsUntilDark 47 = .ok (.getfield 25, 3) := by decide +kernel
theorem dX2_nightsUntilDark_50 : decode cX2_nightsUntilDark 50 = .ok (.invokevirtual 189, 3) := by decide +kernel
theorem dX2_nightsUntilDark_53 : decode cX2_nightsUntilDark 53 = .ok (.ifCond .le 9, 3) := by decide +kernel
theorem dX2_nightsUntilDark_56 : decode cX2_nightsUntilDark 56 = .ok (.sipush 200, 3) := by decide +kernel
theorem dX2_nightsUntilDark_59 : decode cX2_nightsUntilDark 59 = .ok (.goto 4, 3) := by decide +kernel
theorem dX2_nightsUntilDark_62 : decode cX2_nightsUntilDark 62 = .ok (.iconst (-1), 1) := by decide +kernel
theorem dX2_nightsUntilDark_63 : decode cX2_nightsUntilDark 63 = .ok (.ireturn, 1) := by decide +kernel
theorem dX2_waxWanted_0 : decode cX2_waxWanted 0 = .ok (.iload_n 1, 1) := by decide +kernel
theorem dX2_waxWanted_1 : decode cX2_waxWanted 1 = .ok (.bipush 60, 2) := by decide +kernel
theorem dX2_waxWanted_3 : decode cX2_waxWanted 3 = .ok (.invokestatic 155, 3) := by decide +kernel
theorem dX2_waxWanted_6 : decode cX2_waxWanted 6 = .ok (.iconst 0, 1) := by decide +kernel
theorem dX2_waxWanted_7 : decode cX2_waxWanted 7 = .ok (.istore_n 2, 1) := by decide +kernel
theorem dX2_waxWanted_8 : decode cX2_waxWanted 8 = .ok (.sipush 256, 3) := by decide +kernel
theorem dX2_waxWanted_11 : decode cX2_waxWanted 11 = .ok (.istore_n 3, 1) := by decide +kernel
theorem dX2_waxWanted_12 : decode cX2_waxWanted 12 = .ok (.iload_n 3, 1) := by decide +kernel
theorem dX2_waxWanted_13 : decode cX2_waxWanted 13 = .ok (.ifCond .le 27, 3) := by decide +kernel
theorem dX2_waxWanted_16 : decode cX2_waxWanted 16 = .ok (.aload_n 0, 1) := by decide +kernel
theorem dX2_waxWanted_17 : decode cX2_waxWanted 17 = .ok (.iload_n 2, 1) := by decide +kernel
theorem dX2_waxWanted_18 : decode cX2_waxWanted 18 = .ok (.iload_n 3, 1) := by decide +kernel
theorem dX2_waxWanted_19 : decode cX2_waxWanted 19 = .ok (.iadd, 1) := by decide +kernel
theorem dX2_waxWanted_20 : decode cX2_waxWanted 20 = .ok (.iconst 1, 1) := by decide +kernel
theorem dX2_waxWanted_21 : decode cX2_waxWanted 21 = .ok (.isub, 1) := by decide +kernel
theorem dX2_waxWanted_22 : decode cX2_waxWanted 22 = .ok (.iload_n 1, 1) := by decide +kernel
theorem dX2_waxWanted_23 : decode cX2_waxWanted 23 = .ok (.invokevirtual 207, 3) := by decide +kernel
theorem dX2_waxWanted_26 : decode cX2_waxWanted 26 = .ok (.ifCond .ne 7, 3) := by decide +kernel
theorem dX2_waxWanted_29 : decode cX2_waxWanted 29 = .ok (.iload_n 2, 1) := by decide +kernel
theorem dX2_waxWanted_30 : decode cX2_waxWanted 30 = .ok (.iload_n 3, 1) := by decide +kernel
theorem dX2_waxWanted_31 : decode cX2_waxWanted 31 = .ok (.iadd, 1) := by decide +kernel
theorem dX2_waxWanted_32 : decode cX2_waxWanted 32 = .ok (.istore_n 2, 1) := by decide +kernel
theorem dX2_waxWanted_33 : decode cX2_waxWanted 33 = .ok (.iload_n 3, 1) := by decide +kernel
theorem dX2_waxWanted_34 : decode cX2_waxWanted 34 = .ok (.iconst 2, 1) := by decide +kernel
theorem dX2_waxWanted_35 : decode cX2_waxWanted 35 = .ok (.idiv, 1) := by decide +kernel
theorem dX2_waxWanted_36 : decode cX2_waxWanted 36 = .ok (.istore_n 3, 1) := by decide +kernel
theorem dX2_waxWanted_37 : decode cX2_waxWanted 37 = .ok (.goto (-25), 3) := by decide +kernel
theorem dX2_waxWanted_40 : decode cX2_waxWanted 40 = .ok (.iload_n 2, 1) := by decide +kernel
theorem dX2_waxWanted_41 : decode cX2_waxWanted 41 = .ok (.sipush 500, 3) := by decide +kernel
theorem dX2_waxWanted_44 : decode cX2_waxWanted 44 = .ok (.if_icmp .le 7, 3) := by decide +kernel
theorem dX2_waxWanted_47 : decode cX2_waxWanted 47 = .ok (.iconst (-1), 1) := by decide +kernel
theorem dX2_waxWanted_48 : decode cX2_waxWanted 48 = .ok (.goto 4, 3) := by decide +kernel
theorem dX2_waxWanted_51 : decode cX2_waxWanted 51 = .ok (.iload_n 2, 1) := by decide +kernel
theorem dX2_waxWanted_52 : decode cX2_waxWanted 52 = .ok (.ireturn, 1) := by decide +kernel
theorem dX2_meanTrust_0 : decode cX2_meanTrust 0 = .ok (.aload_n 0, 1) := by decide +kernel
theorem dX2_meanTrust_1 : decode cX2_meanTrust 1 = .ok (.getfield 10, 3) := by decide +kernel
theorem dX2_meanTrust_4 : decode cX2_meanTrust 4 = .ok (.getfield 79, 3) := by decide +kernel
theorem dX2_meanTrust_7 : decode cX2_meanTrust 7 = .ok (.ifCond .gt 5, 3) := by decide +kernel
theorem dX2_meanTrust_10 : decode cX2_meanTrust 10 = .ok (.dconst 0, 1) := by decide +kernel
theorem dX2_meanTrust_11 : decode cX2_meanTrust 11 = .ok (.dreturn, 1) := by decide +kernel
theorem dX2_meanTrust_12 : decode cX2_meanTrust 12 = .ok (.iconst 0, 1) := by decide +kernel
theorem dX2_meanTrust_13 : decode cX2_meanTrust 13 = .ok (.istore_n 1, 1) := by decide +kernel
theorem dX2_meanTrust_14 : decode cX2_meanTrust 14 = .ok (.iconst 0, 1) := by decide +kernel
theorem dX2_meanTrust_15 : decode cX2_meanTrust 15 = .ok (.istore_n 2, 1) := by decide +kernel
theorem dX2_meanTrust_16 : decode cX2_meanTrust 16 = .ok (.iload_n 2, 1) := by decide +kernel
theorem dX2_meanTrust_17 : decode cX2_meanTrust 17 = .ok (.aload_n 0, 1) := by decide +kernel
theorem dX2_meanTrust_18 : decode cX2_meanTrust 18 = .ok (.getfield 10, 3) := by decide +kernel
theorem dX2_meanTrust_21 : decode cX2_meanTrust 21 = .ok (.getfield 79, 3) := by decide +kernel
theorem dX2_meanTrust_24 : decode cX2_meanTrust 24 = .ok (.if_icmp .ge 23, 3) := by decide +kernel
theorem dX2_meanTrust_27 : decode cX2_meanTrust 27 = .ok (.iload_n 1, 1) := by decide +kernel
theorem dX2_meanTrust_28 : decode cX2_meanTrust 28 = .ok (.aload_n 0, 1) := by decide +kernel
theorem dX2_meanTrust_29 : decode cX2_meanTrust 29 = .ok (.getfield 21, 3) := by decide +kernel
theorem dX2_meanTrust_32 : decode cX2_meanTrust 32 = .ok (.getfield 88, 3) := by decide +kernel
theorem dX2_meanTrust_35 : decode cX2_meanTrust 35 = .ok (.iload_n 2, 1) := by decide +kernel
theorem dX2_meanTrust_36 : decode cX2_meanTrust 36 = .ok (.invokestatic 56, 3) := by decide +kernel
theorem dX2_meanTrust_39 : decode cX2_meanTrust 39 = .ok (.iadd, 1) := by decide +kernel
theorem dX2_meanTrust_40 : decode cX2_meanTrust 40 = .ok (.istore_n 1, 1) := by decide +kernel
theorem dX2_meanTrust_41 : decode cX2_meanTrust 41 = .ok (.iinc 2 1, 3) := by decide +kernel
theorem dX2_meanTrust_44 : decode cX2_meanTrust 44 = .ok (.goto (-28), 3) := by decide +kernel
theorem dX2_meanTrust_47 : decode cX2_meanTrust 47 = .ok (.iload_n 1, 1) := by decide +kernel
theorem dX2_meanTrust_48 : decode cX2_meanTrust 48 = .ok (.i2d, 1) := by decide +kernel
theorem dX2_meanTrust_49 : decode cX2_meanTrust 49 = .ok (.aload_n 0, 1) := by decide +kernel
theorem dX2_meanTrust_50 : decode cX2_meanTrust 50 = .ok (.getfield 10, 3) := by decide +kernel
theorem dX2_meanTrust_53 : decode cX2_meanTrust 53 = .ok (.getfield 79, 3) := by decide +kernel
theorem dX2_meanTrust_56 : decode cX2_meanTrust 56 = .ok (.i2d, 1) := by decide +kernel
theorem dX2_meanTrust_57 : decode cX2_meanTrust 57 = .ok (.ddiv, 1) := by decide +kernel
theorem dX2_meanTrust_58 : decode cX2_meanTrust 58 = .ok (.dreturn, 1) := by decide +kernel
theorem dX2_digest_0 : decode cX2_digest 0 = .ok (.ldc2_w 211, 3) := by decide +kernel
theorem dX2_digest_3 : decode cX2_digest 3 = .ok (.lstore_n 1, 1) := by decide +kernel
theorem dX2_digest_4 : decode cX2_digest 4 = .ok (.lload_n 1, 1) := by decide +kernel
theorem dX2_digest_5 : decode cX2_digest 5 = .ok (.aload_n 0, 1) := by decide +kernel
theorem dX2_digest_6 : decode cX2_digest 6 = .ok (.getfield 10, 3) := by decide +kernel
theorem dX2_digest_9 : decode cX2_digest 9 = .ok (.getfield 35, 3) := by decide +kernel
theorem dX2_digest_12 : decode cX2_digest 12 = .ok (.invokestatic 213, 3) := by decide +kernel
theorem dX2_digest_15 : decode cX2_digest 15 = .ok (.lstore_n 1, 1) := by decide +kernel
theorem dX2_digest_16 : decode cX2_digest 16 = .ok (.lload_n 1, 1) := by decide +kernel
theorem dX2_digest_17 : decode cX2_digest 17 = .ok (.aload_n 0, 1) := by decide +kernel
theorem dX2_digest_18 : decode cX2_digest 18 = .ok (.getfield 10, 3) := by decide +kernel
theorem dX2_digest_21 : decode cX2_digest 21 = .ok (.getfield 70, 3) := by decide +kernel
theorem dX2_digest_24 : decode cX2_digest 24 = .ok (.invokestatic 213, 3) := by decide +kernel
theorem dX2_digest_27 : decode cX2_digest 27 = .ok (.lstore_n 1, 1) := by decide +kernel
theorem dX2_digest_28 : decode cX2_digest 28 = .ok (.lload_n 1, 1) := by decide +kernel
theorem dX2_digest_29 : decode cX2_digest 29 = .ok (.aload_n 0, 1) := by decide +kernel
theorem dX2_digest_30 : decode cX2_digest 30 = .ok (.getfield 10, 3) := by decide +kernel
theorem dX2_digest_33 : decode cX2_digest 33 = .ok (.getfield 79, 3) := by decide +kernel
theorem dX2_digest_36 : decode cX2_digest 36 = .ok (.invokestatic 213, 3) := by decide +kernel
theorem dX2_digest_39 : decode cX2_digest 39 = .ok (.lstore_n 1, 1) := by decide +kernel
theorem dX2_digest_40 : decode cX2_digest 40 = .ok (.lload_n 1, 1) := by decide +kernel
theorem dX2_digest_41 : decode cX2_digest 41 = .ok (.aload_n 0, 1) := by decide +kernel
theorem dX2_digest_42 : decode cX2_digest 42 = .ok (.getfield 21, 3) := by decide +kernel
theorem dX2_digest_45 : decode cX2_digest 45 = .ok (.invokevirtual 183, 3) := by decide +kernel
theorem dX2_digest_48 : decode cX2_digest 48 = .ok (.invokestatic 213, 3) := by decide +kernel
theorem dX2_digest_51 : decode cX2_digest 51 = .ok (.lstore_n 1, 1) := by decide +kernel
theorem dX2_digest_52 : decode cX2_digest 52 = .ok (.lload_n 1, 1) := by decide +kernel
theorem dX2_digest_53 : decode cX2_digest 53 = .ok (.aload_n 0, 1) := by decide +kernel
theorem dX2_digest_54 : decode cX2_digest 54 = .ok (.getfield 21, 3) := by decide +kernel
theorem dX2_digest_57 : decode cX2_digest 57 = .ok (.getfield 186, 3) := by decide +kernel
theorem dX2_digest_60 : decode cX2_digest 60 = .ok (.invokestatic 213, 3) := by decide +kernel
theorem dX2_digest_63 : decode cX2_digest 63 = .ok (.lstore_n 1, 1) := by decide +kernel
theorem dX2_digest_64 : decode cX2_digest 64 = .ok (.lload_n 1, 1) := by decide +kernel
theorem dX2_digest_65 : decode cX2_digest 65 = .ok (.aload_n 0, 1) := by decide +kernel
theorem dX2_digest_66 : decode cX2_digest 66 = .ok (.getfield 21, 3) := by decide +kernel
theorem dX2_digest_69 : decode cX2_digest 69 = .ok (.getfield 97, 3) := by decide +kernel
theorem dX2_digest_72 : decode cX2_digest 72 = .ok (.invokestatic 213, 3) := by decide +kernel
theorem dX2_digest_75 : decode cX2_digest 75 = .ok (.lstore_n 1, 1) := by decide +kernel
theorem dX2_digest_76 : decode cX2_digest 76 = .ok (.lload_n 1, 1) := by decide +kernel
theorem dX2_digest_77 : decode cX2_digest 77 = .ok (.aload_n 0, 1) := by decide +kernel
theorem dX2_digest_78 : decode cX2_digest 78 = .ok (.getfield 21, 3) := by decide +kernel
theorem dX2_digest_81 : decode cX2_digest 81 = .ok (.invokevirtual 189, 3) := by decide +kernel
theorem dX2_digest_84 : decode cX2_digest 84 = .ok (.invokestatic 213, 3) := by decide +kernel
theorem dX2_digest_87 : decode cX2_digest 87 = .ok (.lstore_n 1, 1) := by decide +kernel
theorem dX2_digest_88 : decode cX2_digest 88 = .ok (.lload_n 1, 1) := by decide +kernel
theorem dX2_digest_89 : decode cX2_digest 89 = .ok (.aload_n 0, 1) := by decide +kernel
theorem dX2_digest_90 : decode cX2_digest 90 = .ok (.getfield 21, 3) := by decide +kernel
theorem dX2_digest_93 : decode cX2_digest 93 = .ok (.getfield 192, 3) := by decide +kernel
theorem dX2_digest_96 : decode cX2_digest 96 = .ok (.invokestatic 213, 3) := by decide +kernel
theorem dX2_digest_99 : decode cX2_digest 99 = .ok (.lstore_n 1, 1) := by decide +kernel
theorem dX2_digest_100 : decode cX2_digest 100 = .ok (.lload_n 1, 1) := by decide +kernel
theorem dX2_digest_101 : decode cX2_digest 101 = .ok (.aload_n 0, 1) := by decide +kernel
theorem dX2_digest_102 : decode cX2_digest 102 = .ok (.getfield 21, 3) := by decide +kernel
theorem dX2_digest_105 : decode cX2_digest 105 = .ok (.invokevirtual 195, 3) := by decide +kernel
theorem dX2_digest_108 : decode cX2_digest 108 = .ok (.invokestatic 213, 3) := by decide +kernel
theorem dX2_digest_111 : decode cX2_digest 111 = .ok (.lstore_n 1, 1) := by decide +kernel
theorem dX2_digest_112 : decode cX2_digest 112 = .ok (.iconst 0, 1) := by decide +kernel
theorem dX2_digest_113 : decode cX2_digest 113 = .ok (.istore_n 3, 1) := by decide +kernel
theorem dX2_digest_114 : decode cX2_digest 114 = .ok (.iload_n 3, 1) := by decide +kernel
theorem dX2_digest_115 : decode cX2_digest 115 = .ok (.aload_n 0, 1) := by decide +kernel
theorem dX2_digest_116 : decode cX2_digest 116 = .ok (.getfield 10, 3) := by decide +kernel
theorem dX2_digest_119 : decode cX2_digest 119 = .ok (.getfield 35, 3) := by decide +kernel
theorem dX2_digest_122 : decode cX2_digest 122 = .ok (.if_icmp .ge 16, 3) := by decide +kernel
theorem dX2_digest_125 : decode cX2_digest 125 = .ok (.aload_n 0, 1) := by decide +kernel
theorem dX2_digest_126 : decode cX2_digest 126 = .ok (.lload_n 1, 1) := by decide +kernel
theorem dX2_digest_127 : decode cX2_digest 127 = .ok (.iload_n 3, 1) := by decide +kernel
theorem dX2_digest_128 : decode cX2_digest 128 = .ok (.invokevirtual 217, 3) := by decide +kernel
theorem dX2_digest_131 : decode cX2_digest 131 = .ok (.lstore_n 1, 1) := by decide +kernel
theorem dX2_digest_132 : decode cX2_digest 132 = .ok (.iinc 3 1, 3) := by decide +kernel
theorem dX2_digest_135 : decode cX2_digest 135 = .ok (.goto (-21), 3) := by decide +kernel
theorem dX2_digest_138 : decode cX2_digest 138 = .ok (.iconst 0, 1) := by decide +kernel
theorem dX2_digest_139 : decode cX2_digest 139 = .ok (.istore_n 3, 1) := by decide +kernel
theorem dX2_digest_140 : decode cX2_digest 140 = .ok (.iload_n 3, 1) := by decide +kernel
theorem dX2_digest_141 : decode cX2_digest 141 = .ok (.aload_n 0, 1) := by decide +kernel
theorem dX2_digest_142 : decode cX2_digest 142 = .ok (.getfield 10, 3) := by decide +kernel
theorem dX2_digest_145 : decode cX2_digest 145 = .ok (.getfield 70, 3) := by decide +kernel
theorem dX2_digest_148 : decode cX2_digest 148 = .ok (.if_icmp .ge 16, 3) := by decide +kernel
theorem dX2_digest_151 : decode cX2_digest 151 = .ok (.aload_n 0, 1) := by decide +kernel
theorem dX2_digest_152 : decode cX2_digest 152 = .ok (.lload_n 1, 1) := by decide +kernel
theorem dX2_digest_153 : decode cX2_digest 153 = .ok (.iload_n 3, 1) := by decide +kernel
theorem dX2_digest_154 : decode cX2_digest 154 = .ok (.invokevirtual 220, 3) := by decide +kernel
theorem dX2_digest_157 : decode cX2_digest 157 = .ok (.lstore_n 1, 1) := by decide +kernel
theorem dX2_digest_158 : decode cX2_digest 158 = .ok (.iinc 3 1, 3) := by decide +kernel
theorem dX2_digest_161 : decode cX2_digest 161 = .ok (.goto (-21), 3) := by decide +kernel
theorem dX2_digest_164 : decode cX2_digest 164 = .ok (.iconst 0, 1) := by decide +kernel
theorem dX2_digest_165 : decode cX2_digest 165 = .ok (.istore_n 3, 1) := by decide +kernel
theorem dX2_digest_166 : decode cX2_digest 166 = .ok (.iload_n 3, 1) := by decide +kernel
theorem dX2_digest_167 : decode cX2_digest 167 = .ok (.aload_n 0, 1) := by decide +kernel
theorem dX2_digest_168 : decode cX2_digest 168 = .ok (.getfield 10, 3) := by decide +kernel
theorem dX2_digest_171 : decode cX2_digest 171 = .ok (.getfield 79, 3) := by decide +kernel
theorem dX2_digest_174 : decode cX2_digest 174 = .ok (.if_icmp .ge 25, 3) := by decide +kernel
theorem dX2_digest_177 : decode cX2_digest 177 = .ok (.lload_n 1, 1) := by decide +kernel
theorem dX2_digest_178 : decode cX2_digest 178 = .ok (.aload_n 0, 1) := by decide +kernel
theorem dX2_digest_179 : decode cX2_digest 179 = .ok (.getfield 21, 3) := by decide +kernel
theorem dX2_digest_182 : decode cX2_digest 182 = .ok (.getfield 88, 3) := by decide +kernel
theorem dX2_digest_185 : decode cX2_digest 185 = .ok (.iload_n 3, 1) := by decide +kernel
theorem dX2_digest_186 : decode cX2_digest 186 = .ok (.invokestatic 56, 3) := by decide +kernel
theorem dX2_digest_189 : decode cX2_digest 189 = .ok (.invokestatic 213, 3) := by decide +kernel
theorem dX2_digest_192 : decode cX2_digest 192 = .ok (.lstore_n 1, 1) := by decide +kernel
theorem dX2_digest_193 : decode cX2_digest 193 = .ok (.iinc 3 1, 3) := by decide +kernel
theorem dX2_digest_196 : decode cX2_digest 196 = .ok (.goto (-30), 3) := by decide +kernel
theorem dX2_digest_199 : decode cX2_digest 199 = .ok (.lload_n 1, 1) := by decide +kernel
theorem dX2_digest_200 : decode cX2_digest 200 = .ok (.lreturn, 1) := by decide +kernel
theorem dX2_mixShip_0 : decode cX2_mixShip 0 = .ok (.lload_n 1, 1) := by decide +kernel
theorem dX2_mixShip_1 : decode cX2_mixShip 1 = .ok (.aload_n 0, 1) := by decide +kernel
theorem dX2_mixShip_2 : decode cX2_mixShip 2 = .ok (.getfield 10, 3) := by decide +kernel
theorem dX2_mixShip_5 : decode cX2_mixShip 5 = .ok (.getfield 52, 3) := by decide +kernel
theorem dX2_mixShip_8 : decode cX2_mixShip 8 = .ok (.iload_n 3, 1) := by decide +kernel
theorem dX2_mixShip_9 : decode cX2_mixShip 9 = .ok (.invokestatic 56, 3) := by decide +kernel
theorem dX2_mixShip_12 : decode cX2_mixShip 12 = .ok (.invokestatic 213, 3) := by decide +kernel
theorem dX2_mixShip_15 : decode cX2_mixShip 15 = .ok (.lstore 4, 2) := by decide +kernel
theorem dX2_mixShip_17 : decode cX2_mixShip 17 = .ok (.lload 4, 2) := by decide +kernel
theorem dX2_mixShip_19 : decode cX2_mixShip 19 = .ok (.aload_n 0, 1) := by decide +kernel
theorem dX2_mixShip_20 : decode cX2_mixShip 20 = .ok (.getfield 21, 3) := by decide +kernel
theorem dX2_mixShip_23 : decode cX2_mixShip 23 = .ok (.iload_n 3, 1) := by decide +kernel
theorem dX2_mixShip_24 : decode cX2_mixShip 24 = .ok (.invokevirtual 65, 3) := by decide +kernel
theorem dX2_mixShip_27 : decode cX2_mixShip 27 = .ok (.ifCond .eq 7, 3) := by decide +kernel
theorem dX2_mixShip_30 : decode cX2_mixShip 30 = .ok (.iconst 1, 1) := by decide +kernel
theorem dX2_mixShip_31 : decode cX2_mixShip 31 = .ok (.goto 4, 3) := by decide +kernel
theorem dX2_mixShip_34 : decode cX2_mixShip 34 = .ok (.iconst 0, 1) := by decide +kernel
theorem dX2_mixShip_35 : decode cX2_mixShip 35 = .ok (.invokestatic 223, 3) := by decide +kernel
theorem dX2_mixShip_38 : decode cX2_mixShip 38 = .ok (.invokestatic 213, 3) := by decide +kernel
theorem dX2_mixShip_41 : decode cX2_mixShip 41 = .ok (.lstore 4, 2) := by decide +kernel
theorem dX2_mixShip_43 : decode cX2_mixShip 43 = .ok (.lload 4, 2) := by decide +kernel
theorem dX2_mixShip_45 : decode cX2_mixShip 45 = .ok (.aload_n 0, 1) := by decide +kernel
theorem dX2_mixShip_46 : decode cX2_mixShip 46 = .ok (.getfield 21, 3) := by decide +kernel
theorem dX2_mixShip_49 : decode cX2_mixShip 49 = .ok (.iload_n 3, 1) := by decide +kernel
theorem dX2_mixShip_50 : decode cX2_mixShip 50 = .ok (.invokevirtual 65, 3) := by decide +kernel
theorem dX2_mixShip_53 : decode cX2_mixShip 53 = .ok (.iconst 2, 1) := by decide +kernel
theorem dX2_mixShip_54 : decode cX2_mixShip 54 = .ok (.if_icmp .ne 7, 3) := by decide +kernel
theorem dX2_mixShip_57 : decode cX2_mixShip 57 = .ok (.iconst 1, 1) := by decide +kernel
theorem dX2_mixShip_58 : decode cX2_mixShip 58 = .ok (.goto 4, 3) := by decide +kernel
theorem dX2_mixShip_61 : decode cX2_mixShip 61 = .ok (.iconst 0, 1) := by decide +kernel
theorem dX2_mixShip_62 : decode cX2_mixShip 62 = .ok (.invokestatic 223, 3) := by decide +kernel
theorem dX2_mixShip_65 : decode cX2_mixShip 65 = .ok (.invokestatic 213, 3) := by decide +kernel
theorem dX2_mixShip_68 : decode cX2_mixShip 68 = .ok (.lstore 4, 2) := by decide +kernel
theorem dX2_mixShip_70 : decode cX2_mixShip 70 = .ok (.lload 4, 2) := by decide +kernel
theorem dX2_mixShip_72 : decode cX2_mixShip 72 = .ok (.aload_n 0, 1) := by decide +kernel
theorem dX2_mixShip_73 : decode cX2_mixShip 73 = .ok (.getfield 21, 3) := by decide +kernel
theorem dX2_mixShip_76 : decode cX2_mixShip 76 = .ok (.getfield 115, 3) := by decide +kernel
theorem dX2_mixShip_79 : decode cX2_mixShip 79 = .ok (.iload_n 3, 1) := by decide +kernel
theorem dX2_mixShip_80 : decode cX2_mixShip 80 = .ok (.invokestatic 56, 3) := by decide +kernel
theorem dX2_mixShip_83 : decode cX2_mixShip 83 = .ok (.invokestatic 213, 3) := by decide +kernel
theorem dX2_mixShip_86 : decode cX2_mixShip 86 = .ok (.lstore 4, 2) := by decide +kernel
theorem dX2_mixShip_88 : decode cX2_mixShip 88 = .ok (.lload 4, 2) := by decide +kernel
theorem dX2_mixShip_90 : decode cX2_mixShip 90 = .ok (.aload_n 0, 1) := by decide +kernel
theorem dX2_mixShip_91 : decode cX2_mixShip 91 = .ok (.getfield 21, 3) := by decide +kernel
theorem dX2_mixShip_94 : decode cX2_mixShip 94 = .ok (.getfield 124, 3) := by decide +kernel
theorem dX2_mixShip_97 : decode cX2_mixShip 97 = .ok (.iload_n 3, 1) := by decide +kernel
theorem dX2_mixShip_98 : decode cX2_mixShip 98 = .ok (.invokestatic 128, 3) := by decide +kernel
theorem dX2_mixShip_101 : decode cX2_mixShip 101 = .ok (.invokestatic 223, 3) := by decide +kernel
theorem dX2_mixShip_104 : decode cX2_mixShip 104 = .ok (.invokestatic 213, 3) := by decide +kernel
theorem dX2_mixShip_107 : decode cX2_mixShip 107 = .ok (.lstore 4, 2) := by decide +kernel
theorem dX2_mixShip_109 : decode cX2_mixShip 109 = .ok (.lload 4, 2) := by decide +kernel
theorem dX2_mixShip_111 : decode cX2_mixShip 111 = .ok (.aload_n 0, 1) := by decide +kernel
theorem dX2_mixShip_112 : decode cX2_mixShip 112 = .ok (.getfield 21, 3) := by decide +kernel
theorem dX2_mixShip_115 : decode cX2_mixShip 115 = .ok (.iload_n 3, 1) := by decide +kernel
theorem dX2_mixShip_116 : decode cX2_mixShip 116 = .ok (.invokevirtual 161, 3) := by decide +kernel
theorem dX2_mixShip_119 : decode cX2_mixShip 119 = .ok (.invokestatic 213, 3) := by decide +kernel
theorem dX2_mixShip_122 : decode cX2_mixShip 122 = .ok (.lstore 4, 2) := by decide +kernel
theorem dX2_mixShip_124 : decode cX2_mixShip 124 = .ok (.lload 4, 2) := by decide +kernel
theorem dX2_mixShip_126 : decode cX2_mixShip 126 = .ok (.aload_n 0, 1) := by decide +kernel
theorem dX2_mixShip_127 : decode cX2_mixShip 127 = .ok (.getfield 10, 3) := by decide +kernel
theorem dX2_mixShip_130 : decode cX2_mixShip 130 = .ok (.iload_n 3, 1) := by decide +kernel
theorem dX2_mixShip_131 : decode cX2_mixShip 131 = .ok (.invokevirtual 164, 3) := by decide +kernel
theorem dX2_mixShip_134 : decode cX2_mixShip 134 = .ok (.invokestatic 213, 3) := by decide +kernel
theorem dX2_mixShip_137 : decode cX2_mixShip 137 = .ok (.lstore 4, 2) := by decide +kernel
theorem dX2_mixShip_139 : decode cX2_mixShip 139 = .ok (.lload 4, 2) := by decide +kernel
theorem dX2_mixShip_141 : decode cX2_mixShip 141 = .ok (.aload_n 0, 1) := by decide +kernel
theorem dX2_mixShip_142 : decode cX2_mixShip 142 = .ok (.getfield 10, 3) := by decide +kernel
theorem dX2_mixShip_145 : decode cX2_mixShip 145 = .ok (.iload_n 3, 1) := by decide +kernel
theorem dX2_mixShip_146 : decode cX2_mixShip 146 = .ok (.invokevirtual 152, 3) := by decide +kernel
theorem dX2_mixShip_149 : decode cX2_mixShip 149 = .ok (.invokestatic 213, 3) := by decide +kernel
theorem dX2_mixShip_152 : decode cX2_mixShip 152 = .ok (.lreturn, 1) := by decide +kernel
theorem dX2_mixSailor_0 : decode cX2_mixSailor 0 = .ok (.lload_n 1, 1) := by decide +kernel
theorem dX2_mixSailor_1 : decode cX2_mixSailor 1 = .ok (.aload_n 0, 1) := by decide +kernel
theorem dX2_mixSailor_2 : decode cX2_mixSailor 2 = .ok (.getfield 10, 3) := by decide +kernel
theorem dX2_mixSailor_5 : decode cX2_mixSailor 5 = .ok (.iload_n 3, 1) := by decide +kernel
theorem dX2_mixSailor_6 : decode cX2_mixSailor 6 = .ok (.invokevirtual 140, 3) := by decide +kernel
theorem dX2_mixSailor_9 : decode cX2_mixSailor 9 = .ok (.invokestatic 213, 3) := by decide +kernel
theorem dX2_mixSailor_12 : decode cX2_mixSailor 12 = .ok (.lstore 4, 2) := by decide +kernel
theorem dX2_mixSailor_14 : decode cX2_mixSailor 14 = .ok (.lload 4, 2) := by decide +kernel
theorem dX2_mixSailor_16 : decode cX2_mixSailor 16 = .ok (.aload_n 0, 1) := by decide +kernel
theorem dX2_mixSailor_17 : decode cX2_mixSailor 17 = .ok (.getfield 10, 3) := by decide +kernel
theorem dX2_mixSailor_20 : decode cX2_mixSailor 20 = .ok (.getfield 170, 3) := by decide +kernel
theorem dX2_mixSailor_23 : decode cX2_mixSailor 23 = .ok (.iload_n 3, 1) := by decide +kernel
theorem dX2_mixSailor_24 : decode cX2_mixSailor 24 = .ok (.invokestatic 56, 3) := by decide +kernel
theorem dX2_mixSailor_27 : decode cX2_mixSailor 27 = .ok (.invokestatic 213, 3) := by decide +kernel
theorem dX2_mixSailor_30 : decode cX2_mixSailor 30 = .ok (.lstore 4, 2) := by decide +kernel
theorem dX2_mixSailor_32 : decode cX2_mixSailor 32 = .ok (.lload 4, 2) := by decide +kernel
theorem dX2_mixSailor_34 : decode cX2_mixSailor 34 = .ok (.aload_n 0, 1) := by decide +kernel
theorem dX2_mixSailor_35 : decode cX2_mixSailor 35 = .ok (.getfield 10, 3) := by decide +kernel
theorem dX2_mixSailor_38 : decode cX2_mixSailor 38 = .ok (.getfield 135, 3) := by decide +kernel
theorem dX2_mixSailor_41 : decode cX2_mixSailor 41 = .ok (.iload_n 3, 1) := by decide +kernel
theorem dX2_mixSailor_42 : decode cX2_mixSailor 42 = .ok (.invokestatic 128, 3) := by decide +kernel
theorem dX2_mixSailor_45 : decode cX2_mixSailor 45 = .ok (.invokestatic 223, 3) := by decide +kernel
theorem dX2_mixSailor_48 : decode cX2_mixSailor 48 = .ok (.invokestatic 213, 3) := by decide +kernel
theorem dX2_mixSailor_51 : decode cX2_mixSailor 51 = .ok (.lstore 4, 2) := by decide +kernel
theorem dX2_mixSailor_53 : decode cX2_mixSailor 53 = .ok (.lload 4, 2) := by decide +kernel
theorem dX2_mixSailor_55 : decode cX2_mixSailor 55 = .ok (.aload_n 0, 1) := by decide +kernel
theorem dX2_mixSailor_56 : decode cX2_mixSailor 56 = .ok (.getfield 10, 3) := by decide +kernel
theorem dX2_mixSailor_59 : decode cX2_mixSailor 59 = .ok (.getfield 145, 3) := by decide +kernel
theorem dX2_mixSailor_62 : decode cX2_mixSailor 62 = .ok (.iload_n 3, 1) := by decide +kernel
theorem dX2_mixSailor_63 : decode cX2_mixSailor 63 = .ok (.invokestatic 128, 3) := by decide +kernel
theorem dX2_mixSailor_66 : decode cX2_mixSailor 66 = .ok (.invokestatic 223, 3) := by decide +kernel
theorem dX2_mixSailor_69 : decode cX2_mixSailor 69 = .ok (.invokestatic 213, 3) := by decide +kernel
theorem dX2_mixSailor_72 : decode cX2_mixSailor 72 = .ok (.lstore 4, 2) := by decide +kernel
theorem dX2_mixSailor_74 : decode cX2_mixSailor 74 = .ok (.lload 4, 2) := by decide +kernel
theorem dX2_mixSailor_76 : decode cX2_mixSailor 76 = .ok (.aload_n 0, 1) := by decide +kernel
theorem dX2_mixSailor_77 : decode cX2_mixSailor 77 = .ok (.getfield 21, 3) := by decide +kernel
theorem dX2_mixSailor_80 : decode cX2_mixSailor 80 = .ok (.getfield 173, 3) := by decide +kernel
theorem dX2_mixSailor_83 : decode cX2_mixSailor 83 = .ok (.iload_n 3, 1) := by decide +kernel
theorem dX2_mixSailor_84 : decode cX2_mixSailor 84 = .ok (.invokestatic 56, 3) := by decide +kernel
theorem dX2_mixSailor_87 : decode cX2_mixSailor 87 = .ok (.invokestatic 213, 3) := by decide +kernel
theorem dX2_mixSailor_90 : decode cX2_mixSailor 90 = .ok (.lreturn, 1) := by decide +kernel
theorem dX2_mix_0 : decode cX2_mix 0 = .ok (.lload_n 0, 1) := by decide +kernel
theorem dX2_mix_1 : decode cX2_mix 1 = .ok (.ldc2_w 227, 3) := by decide +kernel
theorem dX2_mix_4 : decode cX2_mix 4 = .ok (.lmul, 1) := by decide +kernel
theorem dX2_mix_5 : decode cX2_mix 5 = .ok (.iload_n 2, 1) := by decide +kernel
theorem dX2_mix_6 : decode cX2_mix 6 = .ok (.i2l, 1) := by decide +kernel
theorem dX2_mix_7 : decode cX2_mix 7 = .ok (.ladd, 1) := by decide +kernel
theorem dX2_mix_8 : decode cX2_mix 8 = .ok (.lreturn, 1) := by decide +kernel
theorem dX2_one_0 : decode cX2_one 0 = .ok (.iload_n 0, 1) := by decide +kernel
theorem dX2_one_1 : decode cX2_one 1 = .ok (.ifCond .eq 7, 3) := by decide +kernel
theorem dX2_one_4 : decode cX2_one 4 = .ok (.iconst 1, 1) := by decide +kernel
theorem dX2_one_5 : decode cX2_one 5 = .ok (.goto 4, 3) := by decide +kernel
theorem dX2_one_8 : decode cX2_one 8 = .ok (.iconst 0, 1) := by decide +kernel
theorem dX2_one_9 : decode cX2_one 9 = .ok (.ireturn, 1) := by decide +kernel
theorem dX2_wouldStayLit_0 : decode cX2_wouldStayLit 0 = .ok (.aload_n 0, 1) := by decide +kernel
theorem dX2_wouldStayLit_1 : decode cX2_wouldStayLit 1 = .ok (.getfield 25, 3) := by decide +kernel
theorem dX2_wouldStayLit_4 : decode cX2_wouldStayLit 4 = .ok (.aload_n 0, 1) := by decide +kernel
theorem dX2_wouldStayLit_5 : decode cX2_wouldStayLit 5 = .ok (.getfield 21, 3) := by decide +kernel
theorem dX2_wouldStayLit_8 : decode cX2_wouldStayLit 8 = .ok (.invokevirtual 200, 3) := by decide +kernel
theorem dX2_wouldStayLit_11 : decode cX2_wouldStayLit 11 = .ok (.aload_n 0, 1) := by decide +kernel
theorem dX2_wouldStayLit_12 : decode cX2_wouldStayLit 12 = .ok (.getfield 25, 3) := by decide +kernel
theorem dX2_wouldStayLit_15 : decode cX2_wouldStayLit 15 = .ok (.dup, 1) := by decide +kernel
theorem dX2_wouldStayLit_16 : decode cX2_wouldStayLit 16 = .ok (.getfield 97, 3) := by decide +kernel
theorem dX2_wouldStayLit_19 : decode cX2_wouldStayLit 19 = .ok (.iload_n 1, 1) := by decide +kernel
theorem dX2_wouldStayLit_20 : decode cX2_wouldStayLit 20 = .ok (.iadd, 1) := by decide +kernel
theorem dX2_wouldStayLit_21 : decode cX2_wouldStayLit 21 = .ok (.putfield 97, 3) := by decide +kernel
theorem dX2_wouldStayLit_24 : decode cX2_wouldStayLit 24 = .ok (.iconst 0, 1) := by decide +kernel
theorem dX2_wouldStayLit_25 : decode cX2_wouldStayLit 25 = .ok (.istore_n 3, 1) := by decide +kernel
theorem dX2_wouldStayLit_26 : decode cX2_wouldStayLit 26 = .ok (.iload_n 3, 1) := by decide +kernel
theorem dX2_wouldStayLit_27 : decode cX2_wouldStayLit 27 = .ok (.iload_n 2, 1) := by decide +kernel
theorem dX2_wouldStayLit_28 : decode cX2_wouldStayLit 28 = .ok (.if_icmp .ge 29, 3) := by decide +kernel
theorem dX2_wouldStayLit_31 : decode cX2_wouldStayLit 31 = .ok (.aload_n 0, 1) := by decide +kernel
theorem dX2_wouldStayLit_32 : decode cX2_wouldStayLit 32 = .ok (.getfield 25, 3) := by decide +kernel
theorem dX2_wouldStayLit_35 : decode cX2_wouldStayLit 35 = .ok (.invokevirtual 204, 3) := by decide +kernel
theorem dX2_wouldStayLit_38 : decode cX2_wouldStayLit 38 = .ok (.pop, 1) := by decide +kernel
theorem dX2_wouldStayLit_39 : decode cX2_wouldStayLit 39 = .ok (.aload_n 0, 1) := by decide +kernel
theorem dX2_wouldStayLit_40 : decode cX2_wouldStayLit 40 = .ok (.getfield 25, 3) := by decide +kernel
theorem dX2_wouldStayLit_43 : decode cX2_wouldStayLit 43 = .ok (.invokevirtual 189, 3) := by decide +kernel
theorem dX2_wouldStayLit_46 : decode cX2_wouldStayLit 46 = .ok (.ifCond .le 5, 3) := by decide +kernel
theorem dX2_wouldStayLit_49 : decode cX2_wouldStayLit 49 = .ok (.iconst 0, 1) := by decide +kernel
theorem dX2_wouldStayLit_50 : decode cX2_wouldStayLit 50 = .ok (.ireturn, 1) := by decide +kernel
theorem dX2_wouldStayLit_51 : decode cX2_wouldStayLit 51 = .ok (.iinc 3 1, 3) := by decide +kernel
theorem dX2_wouldStayLit_54 : decode cX2_wouldStayLit 54 = .ok (.goto (-28), 3) := by decide +kernel
theorem dX2_wouldStayLit_57 : decode cX2_wouldStayLit 57 = .ok (.iconst 1, 1) := by decide +kernel
theorem dX2_wouldStayLit_58 : decode cX2_wouldStayLit 58 = .ok (.ireturn, 1) := by decide +kernel
theorem dX2_needShip_0 : decode cX2_needShip 0 = .ok (.iload_n 1, 1) := by decide +kernel
theorem dX2_needShip_1 : decode cX2_needShip 1 = .ok (.ifCond .lt 14, 3) := by decide +kernel
theorem dX2_needShip_4 : decode cX2_needShip 4 = .ok (.iload_n 1, 1) := by decide +kernel
theorem dX2_needShip_5 : decode cX2_needShip 5 = .ok (.aload_n 0, 1) := by decide +kernel
theorem dX2_needShip_6 : decode cX2_needShip 6 = .ok (.getfield 10, 3) := by decide +kernel
theorem dX2_needShip_9 : decode cX2_needShip 9 = .ok (.getfield 35, 3) := by decide +kernel
theorem dX2_needShip_12 : decode cX2_needShip 12 = .ok (.if_icmp .lt 13, 3) := by decide +kernel
theorem dX2_needShip_15 : decode cX2_needShip 15 = .ok (.new 60, 3) := by decide +kernel
theorem dX2_needShip_18 : decode cX2_needShip 18 = .ok (.dup, 1) := by decide +kernel
theorem dX2_needShip_19 : decode cX2_needShip 19 = .ok (.ldc 229, 2) := by decide +kernel
theorem dX2_needShip_21 : decode cX2_needShip 21 = .ok (.invokespecial 64, 3) := by decide +kernel
theorem dX2_needShip_24 : decode cX2_needShip 24 = .ok (.athrow, 1) := by decide +kernel
theorem dX2_needShip_25 : decode cX2_needShip 25 = .ok (.return_, 1) := by decide +kernel
theorem dX2_needSailor_0 : decode cX2_needSailor 0 = .ok (.iload_n 1, 1) := by decide +kernel
theorem dX2_needSailor_1 : decode cX2_needSailor 1 = .ok (.ifCond .lt 14, 3) := by decide +kernel
theorem dX2_needSailor_4 : decode cX2_needSailor 4 = .ok (.iload_n 1, 1) := by decide +kernel
theorem dX2_needSailor_5 : decode cX2_needSailor 5 = .ok (.aload_n 0, 1) := by decide +kernel
theorem dX2_needSailor_6 : decode cX2_needSailor 6 = .ok (.getfield 10, 3) := by decide +kernel
theorem dX2_needSailor_9 : decode cX2_needSailor 9 = .ok (.getfield 70, 3) := by decide +kernel
theorem dX2_needSailor_12 : decode cX2_needSailor 12 = .ok (.if_icmp .lt 13, 3) := by decide +kernel
theorem dX2_needSailor_15 : decode cX2_needSailor 15 = .ok (.new 60, 3) := by decide +kernel
theorem dX2_needSailor_18 : decode cX2_needSailor 18 = .ok (.dup, 1) := by decide +kernel
theorem dX2_needSailor_19 : decode cX2_needSailor 19 = .ok (.ldc 231, 2) := by decide +kernel
theorem dX2_needSailor_21 : decode cX2_needSailor 21 = .ok (.invokespecial 64, 3) := by decide +kernel
theorem dX2_needSailor_24 : decode cX2_needSailor 24 = .ok (.athrow, 1) := by decide +kernel
theorem dX2_needSailor_25 : decode cX2_needSailor 25 = .ok (.return_, 1) := by decide +kernel
theorem dX2_needWatcher_0 : decode cX2_needWatcher 0 = .ok (.iload_n 1, 1) := by decide +kernel
theorem dX2_needWatcher_1 : decode cX2_needWatcher 1 = .ok (.ifCond .lt 14, 3) := by decide +kernel
theorem dX2_needWatcher_4 : decode cX2_needWatcher 4 = .ok (.iload_n 1, 1) := by decide +kernel
theorem dX2_needWatcher_5 : decode cX2_needWatcher 5 = .ok (.aload_n 0, 1) := by decide +kernel
theorem dX2_needWatcher_6 : decode cX2_needWatcher 6 = .ok (.getfield 10, 3) := by decide +kernel
theorem dX2_needWatcher_9 : decode cX2_needWatcher 9 = .ok (.getfield 79, 3) := by decide +kernel
theorem dX2_needWatcher_12 : decode cX2_needWatcher 12 = .ok (.if_icmp .lt 13, 3) := by decide +kernel
theorem dX2_needWatcher_15 : decode cX2_needWatcher 15 = .ok (.new 60, 3) := by decide +kernel
theorem dX2_needWatcher_18 : decode cX2_needWatcher 18 = .ok (.dup, 1) := by decide +kernel
theorem dX2_needWatcher_19 : decode cX2_needWatcher 19 = .ok (.ldc 233, 2) := by decide +kernel
theorem dX2_needWatcher_21 : decode cX2_needWatcher 21 = .ok (.invokespecial 64, 3) := by decide +kernel
theorem dX2_needWatcher_24 : decode cX2_needWatcher 24 = .ok (.athrow, 1) := by decide +kernel
theorem dX2_needWatcher_25 : decode cX2_needWatcher 25 = .ok (.return_, 1) := by decide +kernel
theorem dX2_needNewSighting_0 : decode cX2_needNewSighting 0 = .ok (.aload_n 0, 1) := by decide +kernel
theorem dX2_needNewSighting_1 : decode cX2_needNewSighting 1 = .ok (.iload_n 1, 1) := by decide +kernel
theorem dX2_needNewSighting_2 : decode cX2_needNewSighting 2 = .ok (.invokevirtual 180, 3) := by decide +kernel
theorem dX2_needNewSighting_5 : decode cX2_needNewSighting 5 = .ok (.aload_n 0, 1) := by decide +kernel
theorem dX2_needNewSighting_6 : decode cX2_needNewSighting 6 = .ok (.iload_n 2, 1) := by decide +kernel
theorem dX2_needNewSighting_7 : decode cX2_needNewSighting 7 = .ok (.invokevirtual 48, 3) := by decide +kernel
theorem dX2_needNewSighting_10 : decode cX2_needNewSighting 10 = .ok (.aload_n 0, 1) := by decide +kernel
theorem dX2_needNewSighting_11 : decode cX2_needNewSighting 11 = .ok (.getfield 21, 3) := by decide +kernel
theorem dX2_needNewSighting_14 : decode cX2_needNewSighting 14 = .ok (.iload_n 2, 1) := by decide +kernel
theorem dX2_needNewSighting_15 : decode cX2_needNewSighting 15 = .ok (.invokevirtual 65, 3) := by decide +kernel
theorem dX2_needNewSighting_18 : decode cX2_needNewSighting 18 = .ok (.iconst 1, 1) := by decide +kernel
theorem dX2_needNewSighting_19 : decode cX2_needNewSighting 19 = .ok (.if_icmp .eq 13, 3) := by decide +kernel
theorem dX2_needNewSighting_22 : decode cX2_needNewSighting 22 = .ok (.new 39, 3) := by decide +kernel
theorem dX2_needNewSighting_25 : decode cX2_needNewSighting 25 = .ok (.dup, 1) := by decide +kernel
theorem dX2_needNewSighting_26 : decode cX2_needNewSighting 26 = .ok (.ldc 143, 2) := by decide +kernel
theorem dX2_needNewSighting_28 : decode cX2_needNewSighting 28 = .ok (.invokespecial 43, 3) := by decide +kernel
theorem dX2_needNewSighting_31 : decode cX2_needNewSighting 31 = .ok (.athrow, 1) := by decide +kernel
theorem dX2_needNewSighting_32 : decode cX2_needNewSighting 32 = .ok (.aload_n 0, 1) := by decide +kernel
theorem dX2_needNewSighting_33 : decode cX2_needNewSighting 33 = .ok (.getfield 21, 3) := by decide +kernel
theorem dX2_needNewSighting_36 : decode cX2_needNewSighting 36 = .ok (.iload_n 1, 1) := by decide +kernel
theorem dX2_needNewSighting_37 : decode cX2_needNewSighting 37 = .ok (.iload_n 2, 1) := by decide +kernel
theorem dX2_needNewSighting_38 : decode cX2_needNewSighting 38 = .ok (.invokevirtual 235, 3) := by decide +kernel
theorem dX2_needNewSighting_41 : decode cX2_needNewSighting 41 = .ok (.ifCond .eq 13, 3) := by decide +kernel
theorem dX2_needNewSighting_44 : decode cX2_needNewSighting 44 = .ok (.new 39, 3) := by decide +kernel
theorem dX2_needNewSighting_47 : decode cX2_needNewSighting 47 = .ok (.dup, 1) := by decide +kernel
theorem dX2_needNewSighting_48 : decode cX2_needNewSighting 48 = .ok (.ldc 238, 2) := by decide +kernel
theorem dX2_needNewSighting_50 : decode cX2_needNewSighting 50 = .ok (.invokespecial 43, 3) := by decide +kernel
theorem dX2_needNewSighting_53 : decode cX2_needNewSighting 53 = .ok (.athrow, 1) := by decide +kernel
theorem dX2_needNewSighting_54 : decode cX2_needNewSighting 54 = .ok (.return_, 1) := by decide +kernel
theorem dX2_needNights_0 : decode cX2_needNights 0 = .ok (.iload_n 0, 1) := by decide +kernel
theorem dX2_needNights_1 : decode cX2_needNights 1 = .ok (.iconst 1, 1) := by decide +kernel
theorem dX2_needNights_2 : decode cX2_needNights 2 = .ok (.if_icmp .lt 8, 3) := by decide +kernel
theorem dX2_needNights_5 : decode cX2_needNights 5 = .ok (.iload_n 0, 1) := by decide +kernel
theorem dX2_needNights_6 : decode cX2_needNights 6 = .ok (.iload_n 1, 1) := by decide +kernel
theorem dX2_needNights_7 : decode cX2_needNights 7 = .ok (.if_icmp .le 13, 3) := by decide +kernel
theorem dX2_needNights_10 : decode cX2_needNights 10 = .ok (.new 28, 3) := by decide +kernel
theorem dX2_needNights_13 : decode cX2_needNights 13 = .ok (.dup, 1) := by decide +kernel
theorem dX2_needNights_14 : decode cX2_needNights 14 = .ok (.ldc 240, 2) := by decide +kernel
theorem dX2_needNights_16 : decode cX2_needNights 16 = .ok (.invokespecial 32, 3) := by decide +kernel
theorem dX2_needNights_19 : decode cX2_needNights 19 = .ok (.athrow, 1) := by decide +kernel
theorem dX2_needNights_20 : decode cX2_needNights 20 = .ok (.return_, 1) := by decide +kernel
theorem dX2_at_0 : decode cX2_at 0 = .ok (.iload_n 1, 1) := by decide +kernel
theorem dX2_at_1 : decode cX2_at 1 = .ok (.ifCond .lt 15, 3) := by decide +kernel
theorem dX2_at_4 : decode cX2_at 4 = .ok (.iload_n 1, 1) := by decide +kernel
theorem dX2_at_5 : decode cX2_at 5 = .ok (.aload_n 0, 1) := by decide +kernel
theorem dX2_at_6 : decode cX2_at 6 = .ok (.arraylength, 1) := by decide +kernel
theorem dX2_at_7 : decode cX2_at 7 = .ok (.if_icmp .ge 9, 3) := by decide +kernel
theorem dX2_at_10 : decode cX2_at 10 = .ok (.aload_n 0, 1) := by decide +kernel
theorem dX2_at_11 : decode cX2_at 11 = .ok (.iload_n 1, 1) := by decide +kernel
theorem dX2_at_12 : decode cX2_at 12 = .ok (.iaload, 1) := by decide +kernel
theorem dX2_at_13 : decode cX2_at 13 = .ok (.goto 4, 3) := by decide +kernel
theorem dX2_at_16 : decode cX2_at 16 = .ok (.iconst 0, 1) := by decide +kernel
theorem dX2_at_17 : decode cX2_at 17 = .ok (.ireturn, 1) := by decide +kernel
theorem dX2_is_0 : decode cX2_is 0 = .ok (.iload_n 1, 1) := by decide +kernel
theorem dX2_is_1 : decode cX2_is 1 = .ok (.ifCond .lt 19, 3) := by decide +kernel
theorem dX2_is_4 : decode cX2_is 4 = .ok (.iload_n 1, 1) := by decide +kernel
theorem dX2_is_5 : decode cX2_is 5 = .ok (.aload_n 0, 1) := by decide +kernel
theorem dX2_is_6 : decode cX2_is 6 = .ok (.arraylength, 1) := by decide +kernel
theorem dX2_is_7 : decode cX2_is 7 = .ok (.if_icmp .ge 13, 3) := by decide +kernel
theorem dX2_is_10 : decode cX2_is 10 = .ok (.aload_n 0, 1) := by decide +kernel
theorem dX2_is_11 : decode cX2_is 11 = .ok (.iload_n 1, 1) := by decide +kernel
theorem dX2_is_12 : decode cX2_is 12 = .ok (.baload, 1) := by decide +kernel
theorem dX2_is_13 : decode cX2_is 13 = .ok (.ifCond .eq 7, 3) := by decide +kernel
theorem dX2_is_16 : decode cX2_is 16 = .ok (.iconst 1, 1) := by decide +kernel
theorem dX2_is_17 : decode cX2_is 17 = .ok (.goto 4, 3) := by decide +kernel
theorem dX2_is_20 : decode cX2_is 20 = .ok (.iconst 0, 1) := by decide +kernel
theorem dX2_is_21 : decode cX2_is 21 = .ok (.ireturn, 1) := by decide +kernel
theorem dX2_put_0 : decode cX2_put 0 = .ok (.iload_n 1, 1) := by decide +kernel
theorem dX2_put_1 : decode cX2_put 1 = .ok (.ifCond .lt 13, 3) := by decide +kernel
theorem dX2_put_4 : decode cX2_put 4 = .ok (.iload_n 1, 1) := by decide +kernel
theorem dX2_put_5 : decode cX2_put 5 = .ok (.aload_n 0, 1) := by decide +kernel
theorem dX2_put_6 : decode cX2_put 6 = .ok (.arraylength, 1) := by decide +kernel
theorem dX2_put_7 : decode cX2_put 7 = .ok (.if_icmp .ge 7, 3) := by decide +kernel
theorem dX2_put_10 : decode cX2_put 10 = .ok (.aload_n 0, 1) := by decide +kernel
theorem dX2_put_11 : decode cX2_put 11 = .ok (.iload_n 1, 1) := by decide +kernel
theorem dX2_put_12 : decode cX2_put 12 = .ok (.iload_n 2, 1) := by decide +kernel
theorem dX2_put_13 : decode cX2_put 13 = .ok (.iastore, 1) := by decide +kernel
theorem dX2_put_14 : decode cX2_put 14 = .ok (.return_, 1) := by decide +kernel
theorem dX2_mark_0 : decode cX2_mark 0 = .ok (.iload_n 1, 1) := by decide +kernel
theorem dX2_mark_1 : decode cX2_mark 1 = .ok (.ifCond .lt 13, 3) := by decide +kernel
theorem dX2_mark_4 : decode cX2_mark 4 = .ok (.iload_n 1, 1) := by decide +kernel
theorem dX2_mark_5 : decode cX2_mark 5 = .ok (.aload_n 0, 1) := by decide +kernel
theorem dX2_mark_6 : decode cX2_mark 6 = .ok (.arraylength, 1) := by decide +kernel
theorem dX2_mark_7 : decode cX2_mark 7 = .ok (.if_icmp .ge 7, 3) := by decide +kernel
theorem dX2_mark_10 : decode cX2_mark 10 = .ok (.aload_n 0, 1) := by decide +kernel
theorem dX2_mark_11 : decode cX2_mark 11 = .ok (.iload_n 1, 1) := by decide +kernel
theorem dX2_mark_12 : decode cX2_mark 12 = .ok (.iload_n 2, 1) := by decide +kernel
theorem dX2_mark_13 : decode cX2_mark 13 = .ok (.bastore, 1) := by decide +kernel
theorem dX2_mark_14 : decode cX2_mark 14 = .ok (.return_, 1) := by decide +kernel
theorem dX2_copyRow_0 : decode cX2_copyRow 0 = .ok (.iconst 0, 1) := by decide +kernel
theorem dX2_copyRow_1 : decode cX2_copyRow 1 = .ok (.istore_n 2, 1) := by decide +kernel
theorem dX2_copyRow_2 : decode cX2_copyRow 2 = .ok (.iload_n 2, 1) := by decide +kernel
theorem dX2_copyRow_3 : decode cX2_copyRow 3 = .ok (.aload_n 0, 1) := by decide +kernel
theorem dX2_copyRow_4 : decode cX2_copyRow 4 = .ok (.arraylength, 1) := by decide +kernel
theorem dX2_copyRow_5 : decode cX2_copyRow 5 = .ok (.if_icmp .ge 21, 3) := by decide +kernel
theorem dX2_copyRow_8 : decode cX2_copyRow 8 = .ok (.iload_n 2, 1) := by decide +kernel
theorem dX2_copyRow_9 : decode cX2_copyRow 9 = .ok (.aload_n 1, 1) := by decide +kernel
theorem dX2_copyRow_10 : decode cX2_copyRow 10 = .ok (.arraylength, 1) := by decide +kernel
theorem dX2_copyRow_11 : decode cX2_copyRow 11 = .ok (.if_icmp .ge 15, 3) := by decide +kernel
theorem dX2_copyRow_14 : decode cX2_copyRow 14 = .ok (.aload_n 1, 1) := by decide +kernel
theorem dX2_copyRow_15 : decode cX2_copyRow 15 = .ok (.iload_n 2, 1) := by decide +kernel
theorem dX2_copyRow_16 : decode cX2_copyRow 16 = .ok (.aload_n 0, 1) := by decide +kernel
theorem dX2_copyRow_17 : decode cX2_copyRow 17 = .ok (.iload_n 2, 1) := by decide +kernel
theorem dX2_copyRow_18 : decode cX2_copyRow 18 = .ok (.iaload, 1) := by decide +kernel
theorem dX2_copyRow_19 : decode cX2_copyRow 19 = .ok (.iastore, 1) := by decide +kernel
theorem dX2_copyRow_20 : decode cX2_copyRow 20 = .ok (.iinc 2 1, 3) := by decide +kernel
theorem dX2_copyRow_23 : decode cX2_copyRow 23 = .ok (.goto (-21), 3) := by decide +kernel
theorem dX2_copyRow_26 : decode cX2_copyRow 26 = .ok (.return_, 1) := by decide +kernel
theorem dX2_copyMarks_0 : decode cX2_copyMarks 0 = .ok (.iconst 0, 1) := by decide +kernel
theorem dX2_copyMarks_1 : decode cX2_copyMarks 1 = .ok (.istore_n 2, 1) := by decide +kernel
theorem dX2_copyMarks_2 : decode cX2_copyMarks 2 = .ok (.iload_n 2, 1) := by decide +kernel
theorem dX2_copyMarks_3 : decode cX2_copyMarks 3 = .ok (.aload_n 0, 1) := by decide +kernel
theorem dX2_copyMarks_4 : decode cX2_copyMarks 4 = .ok (.arraylength, 1) := by decide +kernel
theorem dX2_copyMarks_5 : decode cX2_copyMarks 5 = .ok (.if_icmp .ge 21, 3) := by decide +kernel
theorem dX2_copyMarks_8 : decode cX2_copyMarks 8 = .ok (.iload_n 2, 1) := by decide +kernel
theorem dX2_copyMarks_9 : decode cX2_copyMarks 9 = .ok (.aload_n 1, 1) := by decide +kernel
theorem dX2_copyMarks_10 : decode cX2_copyMarks 10 = .ok (.arraylength, 1) := by decide +kernel
theorem dX2_copyMarks_11 : decode cX2_copyMarks 11 = .ok (.if_icmp .ge 15, 3) := by decide +kernel
theorem dX2_copyMarks_14 : decode cX2_copyMarks 14 = .ok (.aload_n 1, 1) := by decide +kernel
theorem dX2_copyMarks_15 : decode cX2_copyMarks 15 = .ok (.iload_n 2, 1) := by decide +kernel
theorem dX2_copyMarks_16 : decode cX2_copyMarks 16 = .ok (.aload_n 0, 1) := by decide +kernel
theorem dX2_copyMarks_17 : decode cX2_copyMarks 17 = .ok (.iload_n 2, 1) := by decide +kernel
theorem dX2_copyMarks_18 : decode cX2_copyMarks 18 = .ok (.baload, 1) := by decide +kernel
theorem dX2_copyMarks_19 : decode cX2_copyMarks 19 = .ok (.bastore, 1) := by decide +kernel
theorem dX2_copyMarks_20 : decode cX2_copyMarks 20 = .ok (.iinc 2 1, 3) := by decide +kernel
theorem dX2_copyMarks_23 : decode cX2_copyMarks 23 = .ok (.goto (-21), 3) := by decide +kernel
theorem dX2_copyMarks_26 : decode cX2_copyMarks 26 = .ok (.return_, 1) := by decide +kernel
theorem dX3_init_0 : decode cX3_init 0 = .ok (.aload_n 0, 1) := by decide +kernel
theorem dX3_init_1 : decode cX3_init 1 = .ok (.invokespecial 1, 3) := by decide +kernel
theorem dX3_init_4 : decode cX3_init 4 = .ok (.aload_n 0, 1) := by decide +kernel
theorem dX3_init_5 : decode cX3_init 5 = .ok (.iconst 0, 1) := by decide +kernel
theorem dX3_init_6 : decode cX3_init 6 = .ok (.anewarray 7, 3) := by decide +kernel
theorem dX3_init_9 : decode cX3_init 9 = .ok (.putfield 9, 3) := by decide +kernel
theorem dX3_init_12 : decode cX3_init 12 = .ok (.aload_n 0, 1) := by decide +kernel
theorem dX3_init_13 : decode cX3_init 13 = .ok (.iconst 0, 1) := by decide +kernel
theorem dX3_init_14 : decode cX3_init 14 = .ok (.anewarray 7, 3) := by decide +kernel
theorem dX3_init_17 : decode cX3_init 17 = .ok (.putfield 15, 3) := by decide +kernel
theorem dX3_init_20 : decode cX3_init 20 = .ok (.aload_n 0, 1) := by decide +kernel
theorem dX3_init_21 : decode cX3_init 21 = .ok (.iconst 0, 1) := by decide +kernel
theorem dX3_init_22 : decode cX3_init 22 = .ok (.newarray .int, 2) := by decide +kernel
theorem dX3_init_24 : decode cX3_init 24 = .ok (.putfield 18, 3) := by decide +kernel
theorem dX3_init_27 : decode cX3_init 27 = .ok (.aload_n 0, 1) := by decide +kernel
theorem dX3_init_28 : decode cX3_init 28 = .ok (.iconst 0, 1) := by decide +kernel
theorem dX3_init_29 : decode cX3_init 29 = .ok (.anewarray 7, 3) := by decide +kernel
theorem dX3_init_32 : decode cX3_init 32 = .ok (.putfield 21, 3) := by decide +kernel
theorem dX3_init_35 : decode cX3_init 35 = .ok (.return_, 1) := by decide +kernel
theorem dX3_more_0 : decode cX3_more 0 = .ok (.aload_n 0, 1) := by decide +kernel
theorem dX3_more_1 : decode cX3_more 1 = .ok (.arraylength, 1) := by decide +kernel
theorem dX3_more_2 : decode cX3_more 2 = .ok (.iconst 1, 1) := by decide +kernel
theorem dX3_more_3 : decode cX3_more 3 = .ok (.iadd, 1) := by decide +kernel
theorem dX3_more_4 : decode cX3_more 4 = .ok (.anewarray 7, 3) := by decide +kernel
theorem dX3_more_7 : decode cX3_more 7 = .ok (.astore_n 2, 1) := by decide +kernel
theorem dX3_more_8 : decode cX3_more 8 = .ok (.iconst 0, 1) := by decide +kernel
theorem dX3_more_9 : decode cX3_more 9 = .ok (.istore_n 3, 1) := by decide +kernel
theorem dX3_more_10 : decode cX3_more 10 = .ok (.iload_n 3, 1) := by decide +kernel
theorem dX3_more_11 : decode cX3_more 11 = .ok (.aload_n 0, 1) := by decide +kernel
theorem dX3_more_12 : decode cX3_more 12 = .ok (.arraylength, 1) := by decide +kernel
theorem dX3_more_13 : decode cX3_more 13 = .ok (.if_icmp .ge 15, 3) := by decide +kernel
theorem dX3_more_16 : decode cX3_more 16 = .ok (.aload_n 2, 1) := by decide +kernel
theorem dX3_more_17 : decode cX3_more 17 = .ok (.iload_n 3, 1) := by decide +kernel
theorem dX3_more_18 : decode cX3_more 18 = .ok (.aload_n 0, 1) := by decide +kernel
theorem dX3_more_19 : decode cX3_more 19 = .ok (.iload_n 3, 1) := by decide +kernel
theorem dX3_more_20 : decode cX3_more 20 = .ok (.aaload, 1) := by decide +kernel
theorem dX3_more_21 : decode cX3_more 21 = .ok (.aastore, 1) := by decide +kernel
theorem dX3_more_22 : decode cX3_more 22 = .ok (.iinc 3 1, 3) := by decide +kernel
theorem dX3_more_25 : decode cX3_more 25 = .ok (.goto (-15), 3) := by decide +kernel
theorem dX3_more_28 : decode cX3_more 28 = .ok (.aload_n 2, 1) := by decide +kernel
theorem dX3_more_29 : decode cX3_more 29 = .ok (.aload_n 0, 1) := by decide +kernel
theorem dX3_more_30 : decode cX3_more 30 = .ok (.arraylength, 1) := by decide +kernel
theorem dX3_more_31 : decode cX3_more 31 = .ok (.aload_n 1, 1) := by decide +kernel
theorem dX3_more_32 : decode cX3_more 32 = .ok (.aastore, 1) := by decide +kernel
theorem dX3_more_33 : decode cX3_more 33 = .ok (.aload_n 2, 1) := by decide +kernel
theorem dX3_more_34 : decode cX3_more 34 = .ok (.areturn, 1) := by decide +kernel
theorem dX3_trustIn_0 : decode cX3_trustIn 0 = .ok (.iconst 0, 1) := by decide +kernel
theorem dX3_trustIn_1 : decode cX3_trustIn 1 = .ok (.istore_n 2, 1) := by decide +kernel
theorem dX3_trustIn_2 : decode cX3_trustIn 2 = .ok (.aload_n 0, 1) := by decide +kernel
theorem dX3_trustIn_3 : decode cX3_trustIn 3 = .ok (.getfield 21, 3) := by decide +kernel
theorem dX3_trustIn_6 : decode cX3_trustIn 6 = .ok (.astore_n 3, 1) := by decide +kernel
theorem dX3_trustIn_7 : decode cX3_trustIn 7 = .ok (.aload_n 3, 1) := by decide +kernel
theorem dX3_trustIn_8 : decode cX3_trustIn 8 = .ok (.arraylength, 1) := by decide +kernel
theorem dX3_trustIn_9 : decode cX3_trustIn 9 = .ok (.istore 4, 2) := by decide +kernel
theorem dX3_trustIn_11 : decode cX3_trustIn 11 = .ok (.iconst 0, 1) := by decide +kernel
theorem dX3_trustIn_12 : decode cX3_trustIn 12 = .ok (.istore 5, 2) := by decide +kernel
theorem dX3_trustIn_14 : decode cX3_trustIn 14 = .ok (.iload 5, 2) := by decide +kernel
theorem dX3_trustIn_16 : decode cX3_trustIn 16 = .ok (.iload 4, 2) := by decide +kernel
theorem dX3_trustIn_18 : decode cX3_trustIn 18 = .ok (.if_icmp .ge 35, 3) := by decide +kernel
theorem dX3_trustIn_21 : decode cX3_trustIn 21 = .ok (.aload_n 3, 1) := by decide +kernel
theorem dX3_trustIn_22 : decode cX3_trustIn 22 = .ok (.iload 5, 2) := by decide +kernel
theorem dX3_trustIn_24 : decode cX3_trustIn 24 = .ok (.aaload, 1) := by decide +kernel
theorem dX3_trustIn_25 : decode cX3_trustIn 25 = .ok (.astore 6, 2) := by decide +kernel
theorem dX3_trustIn_27 : decode cX3_trustIn 27 = .ok (.aload 6, 2) := by decide +kernel
theorem dX3_trustIn_29 : decode cX3_trustIn 29 = .ok (.iconst 1, 1) := by decide +kernel
theorem dX3_trustIn_30 : decode cX3_trustIn 30 = .ok (.iaload, 1) := by decide +kernel
theorem dX3_trustIn_31 : decode cX3_trustIn 31 = .ok (.iload_n 1, 1) := by decide +kernel
theorem dX3_trustIn_32 : decode cX3_trustIn 32 = .ok (.if_icmp .ne 15, 3) := by decide +kernel
theorem dX3_trustIn_35 : decode cX3_trustIn 35 = .ok (.iload_n 2, 1) := by decide +kernel
theorem dX3_trustIn_36 : decode cX3_trustIn 36 = .ok (.aload_n 0, 1) := by decide +kernel
theorem dX3_trustIn_37 : decode cX3_trustIn 37 = .ok (.getfield 18, 3) := by decide +kernel
theorem dX3_trustIn_40 : decode cX3_trustIn 40 = .ok (.aload 6, 2) := by decide +kernel
theorem dX3_trustIn_42 : decode cX3_trustIn 42 = .ok (.iconst 0, 1) := by decide +kernel
theorem dX3_trustIn_43 : decode cX3_trustIn 43 = .ok (.iaload, 1) := by decide +kernel
theorem dX3_trustIn_44 : decode cX3_trustIn 44 = .ok (.iaload, 1) := by decide +kernel
theorem dX3_trustIn_45 : decode cX3_trustIn 45 = .ok (.iadd, 1) := by decide +kernel
theorem dX3_trustIn_46 : decode cX3_trustIn 46 = .ok (.istore_n 2, 1) := by decide +kernel
theorem dX3_trustIn_47 : decode cX3_trustIn 47 = .ok (.iinc 5 1, 3) := by decide +kernel
theorem dX3_trustIn_50 : decode cX3_trustIn 50 = .ok (.goto (-36), 3) := by decide +kernel
theorem dX3_trustIn_53 : decode cX3_trustIn 53 = .ok (.iload_n 2, 1) := by decide +kernel
theorem dX3_trustIn_54 : decode cX3_trustIn 54 = .ok (.ireturn, 1) := by decide +kernel
theorem dX3_isSighted_0 : decode cX3_isSighted 0 = .ok (.iconst 0, 1) := by decide +kernel
theorem dX3_isSighted_1 : decode cX3_isSighted 1 = .ok (.istore_n 3, 1) := by decide +kernel
theorem dX3_isSighted_2 : decode cX3_isSighted 2 = .ok (.aload_n 0, 1) := by decide +kernel
theorem dX3_isSighted_3 : decode cX3_isSighted 3 = .ok (.getfield 21, 3) := by decide +kernel
theorem dX3_isSighted_6 : decode cX3_isSighted 6 = .ok (.astore 4, 2) := by decide +kernel
theorem dX3_isSighted_8 : decode cX3_isSighted 8 = .ok (.aload 4, 2) := by decide +kernel
theorem dX3_isSighted_10 : decode cX3_isSighted 10 = .ok (.arraylength, 1) := by decide +kernel
theorem dX3_isSighted_11 : decode cX3_isSighted 11 = .ok (.istore 5, 2) := by decide +kernel
theorem dX3_isSighted_13 : decode cX3_isSighted 13 = .ok (.iconst 0, 1) := by decide +kernel
theorem dX3_isSighted_14 : decode cX3_isSighted 14 = .ok (.istore 6, 2) := by decide +kernel
theorem dX3_isSighted_16 : decode cX3_isSighted 16 = .ok (.iload 6, 2) := by decide +kernel
theorem dX3_isSighted_18 : decode cX3_isSighted 18 = .ok (.iload 5, 2) := by decide +kernel
theorem dX3_isSighted_20 : decode cX3_isSighted 20 = .ok (.if_icmp .ge 40, 3) := by decide +kernel
theorem dX3_isSighted_23 : decode cX3_isSighted 23 = .ok (.aload 4, 2) := by decide +kernel
theorem dX3_isSighted_25 : decode cX3_isSighted 25 = .ok (.iload 6, 2) := by decide +kernel
theorem dX3_isSighted_27 : decode cX3_isSighted 27 = .ok (.aaload, 1) := by decide +kernel
theorem dX3_isSighted_28 : decode cX3_isSighted 28 = .ok (.astore 7, 2) := by decide +kernel
theorem dX3_isSighted_30 : decode cX3_isSighted 30 = .ok (.iload_n 3, 1) := by decide +kernel
theorem dX3_isSighted_31 : decode cX3_isSighted 31 = .ok (.aload 7, 2) := by decide +kernel
theorem dX3_isSighted_33 : decode cX3_isSighted 33 = .ok (.iconst 0, 1) := by decide +kernel
theorem dX3_isSighted_34 : decode cX3_isSighted 34 = .ok (.iaload, 1) := by decide +kernel
theorem dX3_isSighted_35 : decode cX3_isSighted 35 = .ok (.iload_n 1, 1) := by decide +kernel
theorem dX3_isSighted_36 : decode cX3_isSighted 36 = .ok (.if_icmp .ne 15, 3) := by decide +kernel
theorem dX3_isSighted_39 : decode cX3_isSighted 39 = .ok (.aload 7, 2) := by decide +kernel
theorem dX3_isSighted_41 : decode cX3_isSighted 41 = .ok (.iconst 1, 1) := by decide +kernel
theorem dX3_isSighted_42 : decode cX3_isSighted 42 = .ok (.iaload, 1) := by decide +kernel
theorem dX3_isSighted_43 : decode cX3_isSighted 43 = .ok (.iload_n 2, 1) := by decide +kernel
theorem dX3_isSighted_44 : decode cX3_isSighted 44 = .ok (.if_icmp .ne 7, 3) := by decide +kernel
theorem dX3_isSighted_47 : decode cX3_isSighted 47 = .ok (.iconst 1, 1) := by decide +kernel
theorem dX3_isSighted_48 : decode cX3_isSighted 48 = .ok (.goto 4, 3) := by decide +kernel
theorem dX3_isSighted_51 : decode cX3_isSighted 51 = .ok (.iconst 0, 1) := by decide +kernel
theorem dX3_isSighted_52 : decode cX3_isSighted 52 = .ok (.ior, 1) := by decide +kernel
theorem dX3_isSighted_53 : decode cX3_isSighted 53 = .ok (.istore_n 3, 1) := by decide +kernel
theorem dX3_isSighted_54 : decode cX3_isSighted 54 = .ok (.iinc 6 1, 3) := by decide +kernel
theorem dX3_isSighted_57 : decode cX3_isSighted 57 = .ok (.goto (-41), 3) := by decide +kernel
theorem dX3_isSighted_60 : decode cX3_isSighted 60 = .ok (.iload_n 3, 1) := by decide +kernel
theorem dX3_isSighted_61 : decode cX3_isSighted 61 = .ok (.ireturn, 1) := by decide +kernel
theorem dX3_drop_0 : decode cX3_drop 0 = .ok (.iconst 0, 1) := by decide +kernel
theorem dX3_drop_1 : decode cX3_drop 1 = .ok (.anewarray 7, 3) := by decide +kernel
theorem dX3_drop_4 : decode cX3_drop 4 = .ok (.astore_n 3, 1) := by decide +kernel
theorem dX3_drop_5 : decode cX3_drop 5 = .ok (.aload_n 0, 1) := by decide +kernel
theorem dX3_drop_6 : decode cX3_drop 6 = .ok (.getfield 21, 3) := by decide +kernel
theorem dX3_drop_9 : decode cX3_drop 9 = .ok (.astore 4, 2) := by decide +kernel
theorem dX3_drop_11 : decode cX3_drop 11 = .ok (.aload 4, 2) := by decide +kernel
theorem dX3_drop_13 : decode cX3_drop 13 = .ok (.arraylength, 1) := by decide +kernel
theorem dX3_drop_14 : decode cX3_drop 14 = .ok (.istore 5, 2) := by decide +kernel
theorem dX3_drop_16 : decode cX3_drop 16 = .ok (.iconst 0, 1) := by decide +kernel
theorem dX3_drop_17 : decode cX3_drop 17 = .ok (.istore 6, 2) := by decide +kernel
theorem dX3_drop_19 : decode cX3_drop 19 = .ok (.iload 6, 2) := by decide +kernel
theorem dX3_drop_21 : decode cX3_drop 21 = .ok (.iload 5, 2) := by decide +kernel
theorem dX3_drop_23 : decode cX3_drop 23 = .ok (.if_icmp .ge 39, 3) := by decide +kernel
theorem dX3_drop_26 : decode cX3_drop 26 = .ok (.aload 4, 2) := by decide +kernel
theorem dX3_drop_28 : decode cX3_drop 28 = .ok (.iload 6, 2) := by decide +kernel
theorem dX3_drop_30 : decode cX3_drop 30 = .ok (.aaload, 1) := by decide +kernel
theorem dX3_drop_31 : decode cX3_drop 31 = .ok (.astore 7, 2) := by decide +kernel
theorem dX3_drop_33 : decode cX3_drop 33 = .ok (.aload 7, 2) := by decide +kernel
theorem dX3_drop_35 : decode cX3_drop 35 = .ok (.iconst 1, 1) := by decide +kernel
theorem dX3_drop_36 : decode cX3_drop 36 = .ok (.iaload, 1) := by decide +kernel
theorem dX3_drop_37 : decode cX3_drop 37 = .ok (.iload_n 1, 1) := by decide +kernel
theorem dX3_drop_38 : decode cX3_drop 38 = .ok (.if_icmp .eq 18, 3) := by decide +kernel
theorem dX3_drop_41 : decode cX3_drop 41 = .ok (.aload 7, 2) := by decide +kernel
theorem dX3_drop_43 : decode cX3_drop 43 = .ok (.iconst 2, 1) := by decide +kernel
theorem dX3_drop_44 : decode cX3_drop 44 = .ok (.iaload, 1) := by decide +kernel
theorem dX3_drop_45 : decode cX3_drop 45 = .ok (.iload_n 2, 1) := by decide +kernel
theorem dX3_drop_46 : decode cX3_drop 46 = .ok (.if_icmp .ge 10, 3) := by decide +kernel
theorem dX3_drop_49 : decode cX3_drop 49 = .ok (.aload_n 3, 1) := by decide +kernel
theorem dX3_drop_50 : decode cX3_drop 50 = .ok (.aload 7, 2) := by decide +kernel
theorem dX3_drop_52 : decode cX3_drop 52 = .ok (.invokestatic 43, 3) := by decide +kernel
theorem dX3_drop_55 : decode cX3_drop 55 = .ok (.astore_n 3, 1) := by decide +kernel
theorem dX3_drop_56 : decode cX3_drop 56 = .ok (.iinc 6 1, 3) := by decide +kernel
theorem dX3_drop_59 : decode cX3_drop 59 = .ok (.goto (-40), 3) := by decide +kernel
theorem dX3_drop_62 : decode cX3_drop 62 = .ok (.aload_n 0, 1) := by decide +kernel
theorem dX3_drop_63 : decode cX3_drop 63 = .ok (.aload_n 3, 1) := by decide +kernel
theorem dX3_drop_64 : decode cX3_drop 64 = .ok (.putfield 21, 3) := by decide +kernel
theorem dX3_drop_67 : decode cX3_drop 67 = .ok (.return_, 1) := by decide +kernel
theorem dX3_votes_0 : decode cX3_votes 0 = .ok (.iconst 0, 1) := by decide +kernel
theorem dX3_votes_1 : decode cX3_votes 1 = .ok (.istore_n 3, 1) := by decide +kernel
theorem dX3_votes_2 : decode cX3_votes 2 = .ok (.aload_n 0, 1) := by decide +kernel
theorem dX3_votes_3 : decode cX3_votes 3 = .ok (.getfield 15, 3) := by decide +kernel
theorem dX3_votes_6 : decode cX3_votes 6 = .ok (.astore 4, 2) := by decide +kernel
theorem dX3_votes_8 : decode cX3_votes 8 = .ok (.aload 4, 2) := by decide +kernel
theorem dX3_votes_10 : decode cX3_votes 10 = .ok (.arraylength, 1) := by decide +kernel
theorem dX3_votes_11 : decode cX3_votes 11 = .ok (.istore 5, 2) := by decide +kernel
theorem dX3_votes_13 : decode cX3_votes 13 = .ok (.iconst 0, 1) := by decide +kernel
theorem dX3_votes_14 : decode cX3_votes 14 = .ok (.istore 6, 2) := by decide +kernel
theorem dX3_votes_16 : decode cX3_votes 16 = .ok (.iload 6, 2) := by decide +kernel
theorem dX3_votes_18 : decode cX3_votes 18 = .ok (.iload 5, 2) := by decide +kernel
theorem dX3_votes_20 : decode cX3_votes 20 = .ok (.if_icmp .ge 47, 3) := by decide +kernel
theorem dX3_votes_23 : decode cX3_votes 23 = .ok (.aload 4, 2) := by decide +kernel
theorem dX3_votes_25 : decode cX3_votes 25 = .ok (.iload 6, 2) := by decide +kernel
theorem dX3_votes_27 : decode cX3_votes 27 = .ok (.aaload, 1) := by decide +kernel
theorem dX3_votes_28 : decode cX3_votes 28 = .ok (.astore 7, 2) := by decide +kernel
theorem dX3_votes_30 : decode cX3_votes 30 = .ok (.aload 7, 2) := by decide +kernel
theorem dX3_votes_32 : decode cX3_votes 32 = .ok (.iconst 0, 1) := by decide +kernel
theorem dX3_votes_33 : decode cX3_votes 33 = .ok (.iaload, 1) := by decide +kernel
theorem dX3_votes_34 : decode cX3_votes 34 = .ok (.iload_n 1, 1) := by decide +kernel
theorem dX3_votes_35 : decode cX3_votes 35 = .ok (.if_icmp .ne 26, 3) := by decide +kernel
theorem dX3_votes_38 : decode cX3_votes 38 = .ok (.aload 7, 2) := by decide +kernel
theorem dX3_votes_40 : decode cX3_votes 40 = .ok (.iconst 2, 1) := by decide +kernel
theorem dX3_votes_41 : decode cX3_votes 41 = .ok (.iaload, 1) := by decide +kernel
theorem dX3_votes_42 : decode cX3_votes 42 = .ok (.iconst 1, 1) := by decide +kernel
theorem dX3_votes_43 : decode cX3_votes 43 = .ok (.if_icmp .ne 18, 3) := by decide +kernel
theorem dX3_votes_46 : decode cX3_votes 46 = .ok (.aload 7, 2) := by decide +kernel
theorem dX3_votes_48 : decode cX3_votes 48 = .ok (.iconst 3, 1) := by decide +kernel
theorem dX3_votes_49 : decode cX3_votes 49 = .ok (.iaload, 1) := by decide +kernel
theorem dX3_votes_50 : decode cX3_votes 50 = .ok (.iconst 1, 1) := by decide +kernel
theorem dX3_votes_51 : decode cX3_votes 51 = .ok (.if_icmp .eq 7, 3) := by decide +kernel
theorem dX3_votes_54 : decode cX3_votes 54 = .ok (.iload_n 2, 1) := by decide +kernel
theorem dX3_votes_55 : decode cX3_votes 55 = .ok (.ifCond .ne 6, 3) := by decide +kernel
theorem dX3_votes_58 : decode cX3_votes 58 = .ok (.iinc 3 1, 3) := by decide +kernel
theorem dX3_votes_61 : decode cX3_votes 61 = .ok (.iinc 6 1, 3) := by decide +kernel
theorem dX3_votes_64 : decode cX3_votes 64 = .ok (.goto (-48), 3) := by decide +kernel
theorem dX3_votes_67 : decode cX3_votes 67 = .ok (.iload_n 3, 1) := by decide +kernel
theorem dX3_votes_68 : decode cX3_votes 68 = .ok (.ireturn, 1) := by decide +kernel
theorem dX3_isDark_0 : decode cX3_isDark 0 = .ok (.aload_n 0, 1) := by decide +kernel
theorem dX3_isDark_1 : decode cX3_isDark 1 = .ok (.getfield 9, 3) := by decide +kernel
theorem dX3_isDark_4 : decode cX3_isDark 4 = .ok (.aload_n 1, 1) := by decide +kernel
theorem dX3_isDark_5 : decode cX3_isDark 5 = .ok (.iconst 0, 1) := by decide +kernel
theorem dX3_isDark_6 : decode cX3_isDark 6 = .ok (.iaload, 1) := by decide +kernel
theorem dX3_isDark_7 : decode cX3_isDark 7 = .ok (.aaload, 1) := by decide +kernel
theorem dX3_isDark_8 : decode cX3_isDark 8 = .ok (.iconst 1, 1) := by decide +kernel
theorem dX3_isDark_9 : decode cX3_isDark 9 = .ok (.iaload, 1) := by decide +kernel
theorem dX3_isDark_10 : decode cX3_isDark 10 = .ok (.iconst 1, 1) := by decide +kernel
theorem dX3_isDark_11 : decode cX3_isDark 11 = .ok (.if_icmp .ne 13, 3) := by decide +kernel
theorem dX3_isDark_14 : decode cX3_isDark 14 = .ok (.aload_n 1, 1) := by decide +kernel
theorem dX3_isDark_15 : decode cX3_isDark 15 = .ok (.iconst 4, 1) := by decide +kernel
theorem dX3_isDark_16 : decode cX3_isDark 16 = .ok (.iaload, 1) := by decide +kernel
theorem dX3_isDark_17 : decode cX3_isDark 17 = .ok (.ifCond .ne 7, 3) := by decide +kernel
theorem dX3_isDark_20 : decode cX3_isDark 20 = .ok (.iconst 1, 1) := by decide +kernel
theorem dX3_isDark_21 : decode cX3_isDark 21 = .ok (.goto 4, 3) := by decide +kernel
theorem dX3_isDark_24 : decode cX3_isDark 24 = .ok (.iconst 0, 1) := by decide +kernel
theorem dX3_isDark_25 : decode cX3_isDark 25 = .ok (.ireturn, 1) := by decide +kernel
theorem dX3_dark_0 : decode cX3_dark 0 = .ok (.iconst 0, 1) := by decide +kernel
theorem dX3_dark_1 : decode cX3_dark 1 = .ok (.istore_n 1, 1) := by decide +kernel
theorem dX3_dark_2 : decode cX3_dark 2 = .ok (.aload_n 0, 1) := by decide +kernel
theorem dX3_dark_3 : decode cX3_dark 3 = .ok (.getfield 15, 3) := by decide +kernel
theorem dX3_dark_6 : decode cX3_dark 6 = .ok (.astore_n 2, 1) := by decide +kernel
theorem dX3_dark_7 : decode cX3_dark 7 = .ok (.aload_n 2, 1) := by decide +kernel
theorem dX3_dark_8 : decode cX3_dark 8 = .ok (.arraylength, 1) := by decide +kernel
theorem dX3_dark_9 : decode cX3_dark 9 = .ok (.istore_n 3, 1) := by decide +kernel
theorem dX3_dark_10 : decode cX3_dark 10 = .ok (.iconst 0, 1) := by decide +kernel
theorem dX3_dark_11 : decode cX3_dark 11 = .ok (.istore 4, 2) := by decide +kernel
theorem dX3_dark_13 : decode cX3_dark 13 = .ok (.iload 4, 2) := by decide +kernel
theorem dX3_dark_15 : decode cX3_dark 15 = .ok (.iload_n 3, 1) := by decide +kernel
theorem dX3_dark_16 : decode cX3_dark 16 = .ok (.if_icmp .ge 32, 3) := by decide +kernel
theorem dX3_dark_19 : decode cX3_dark 19 = .ok (.aload_n 2, 1) := by decide +kernel
theorem dX3_dark_20 : decode cX3_dark 20 = .ok (.iload 4, 2) := by decide +kernel
theorem dX3_dark_22 : decode cX3_dark 22 = .ok (.aaload, 1) := by decide +kernel
theorem dX3_dark_23 : decode cX3_dark 23 = .ok (.astore 5, 2) := by decide +kernel
theorem dX3_dark_25 : decode cX3_dark 25 = .ok (.iload_n 1, 1) := by decide +kernel
theorem dX3_dark_26 : decode cX3_dark 26 = .ok (.aload_n 0, 1) := by decide +kernel
theorem dX3_dark_27 : decode cX3_dark 27 = .ok (.aload 5, 2) := by decide +kernel
theorem dX3_dark_29 : decode cX3_dark 29 = .ok (.invokevirtual 47, 3) := by decide +kernel
theorem dX3_dark_32 : decode cX3_dark 32 = .ok (.ifCond .eq 7, 3) := by decide +kernel
theorem dX3_dark_35 : decode cX3_dark 35 = .ok (.iconst 1, 1) := by decide +kernel
theorem dX3_dark_36 : decode cX3_dark 36 = .ok (.goto 4, 3) := by decide +kernel
theorem dX3_dark_39 : decode cX3_dark 39 = .ok (.iconst 0, 1) := by decide +kernel
theorem dX3_dark_40 : decode cX3_dark 40 = .ok (.iadd, 1) := by decide +kernel
theorem dX3_dark_41 : decode cX3_dark 41 = .ok (.istore_n 1, 1) := by decide +kernel
theorem dX3_dark_42 : decode cX3_dark 42 = .ok (.iinc 4 1, 3) := by decide +kernel
theorem dX3_dark_45 : decode cX3_dark 45 = .ok (.goto (-32), 3) := by decide +kernel
theorem dX3_dark_48 : decode cX3_dark 48 = .ok (.iload_n 1, 1) := by decide +kernel
theorem dX3_dark_49 : decode cX3_dark 49 = .ok (.ireturn, 1) := by decide +kernel
theorem dX3_light_0 : decode cX3_light 0 = .ok (.aload_n 0, 1) := by decide +kernel
theorem dX3_light_1 : decode cX3_light 1 = .ok (.getfield 33, 3) := by decide +kernel
theorem dX3_light_4 : decode cX3_light 4 = .ok (.bipush 12, 2) := by decide +kernel
