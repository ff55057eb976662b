theorem dX3_init_6 : decode cX3_init 6 = .ok (.anewarray 7, 3) := by decide +kernel
theorem dX3_init_9 : decode cX3_init 9 = .ok (.putfield 9, 3) := by decide +kernel
theorem dX3_init_12 : decode cX3_init 12 = .ok (.aload_n 0, 1) := by decide +kernel
theorem dX3_init_13 : decode cX3_init 13 = .ok (.iconst 0, 1) := by decide +kernel
theorem dX3_init_14 : decode cX3_init 14 = .ok (.anewarray 7, 3) := by decide +kernel
theorem dX3_init_17 : decode cX3_init 17 = .ok (.putfield 15, 3) := by decide +kernel
theorem dX3_init_20 : decode cX3_init 20 = .ok (.aload_n 0, 1) := by decide +kernel
theorem dX3_init_21 : decode cX3_init 21 = .ok (.iconst 0, 1) := by decide +kernel
theorem dX3_init_22 : decode cX3_init 22 = .ok (.newarray .int, 2) := by decide +kernel
theorem dX3_init_24 : decode cX3_init 24 = .ok (.putfield 18, 3) := by decide +kernel
theorem dX3_init_27 : decode cX3_init 27 = .ok (.aload_n 0, 1) := by decide +kernel
theorem dX3_init_28 : decode cX3_init 28 = .ok (.iconst 0, 1) := by decide +kernel
theorem dX3_init_29 : decode cX3_init 29 = .ok (.anewarray 7, 3) := by decide +kernel
theorem dX3_init_32 : decode cX3_init 32 = .ok (.putfield 21, 3) := by decide +kernel
theorem dX3_init_35 : decode cX3_init 35 = .ok (.return_, 1) := by decide +kernel
theorem dX3_more_0 : decode cX3_more 0 = .ok (.aload_n 0, 1) := by decide +kernel
theorem dX3_more_1 : decode cX3_more 1 = .ok (.arraylength, 1) := by decide +kernel
theorem dX3_more_2 : decode cX3_more 2 = .ok (.iconst 1, 1) := by decide +kernel
theorem dX3_more_3 : decode cX3_more 3 = .ok (.iadd, 1) := by decide +kernel
theorem dX3_more_4 : decode cX3_more 4 = .ok (.anewarray 7, 3) := by decide +kernel
theorem dX3_more_7 : decode cX3_more 7 = .ok (.astore_n 2, 1) := by decide +kernel
theorem dX3_more_8 : decode cX3_more 8 = .ok (.iconst 0, 1) := by decide +kernel
theorem dX3_more_9 : decode cX3_more 9 = .ok (.istore_n 3, 1) := by decide +kernel
theorem dX3_more_10 : decode cX3_more 10 = .ok (.iload_n 3, 1) := by decide +kernel
theorem dX3_more_11 : decode cX3_more 11 = .ok (.aload_n 0, 1) := by decide +kernel
theorem dX3_more_12 : decode cX3_more 12 = .ok (.arraylength, 1) := by decide +kernel
theorem dX3_more_13 : decode cX3_more 13 = .ok (.if_icmp .ge 15, 3) := by decide +kernel
theorem dX3_more_16 : decode cX3_more 16 = .ok (.aload_n 2, 1) := by decide +kernel
theorem dX3_more_17 : decode cX3_more 17 = .ok (.iload_n 3, 1) := by decide +kernel
theorem dX3_more_18 : decode cX3_more 18 = .ok (.aload_n 0, 1) := by decide +kernel
theorem dX3_more_19 : decode cX3_more 19 = .ok (.iload_n 3, 1) := by decide +kernel
theorem dX3_more_20 : decode cX3_more 20 = .ok (.aaload, 1) := by decide +kernel
theorem dX3_more_21 : decode cX3_more 21 = .ok (.aastore, 1) := by decide +kernel
theorem dX3_more_22 : decode cX3_more 22 = .ok (.iinc 3 1, 3) := by decide +kernel
theorem dX3_more_25 : decode cX3_more 25 = .ok (.goto (-15), 3) := by decide +kernel
theorem dX3_more_28 : decode cX3_more 28 = .ok (.aload_n 2, 1) := by decide +kernel
theorem dX3_more_29 : decode cX3_more 29 = .ok (.aload_n 0, 1) := by decide +kernel
theorem dX3_more_30 : decode cX3_more 30 = .ok (.arraylength, 1) := by decide +kernel
theorem dX3_more_31 : decode cX3_more 31 = .ok (.aload_n 1, 1) := by decide +kernel
theorem dX3_more_32 : decode cX3_more 32 = .ok (.aastore, 1) := by decide +kernel
theorem dX3_more_33 : decode cX3_more 33 = .ok (.aload_n 2, 1) := by decide +kernel
theorem dX3_more_34 : decode cX3_more 34 = .ok (.areturn, 1) := by decide +kernel
theorem dX3_trustIn_0 : decode cX3_trustIn 0 = .ok (.iconst 0, 1) := by decide +kernel
theorem dX3_trustIn_1 : decode cX3_trustIn 1 = .ok (.istore_n 2, 1) := by decide +kernel
theorem dX3_trustIn_2 : decode cX3_trustIn 2 = .ok (.aload_n 0, 1) := by decide +kernel
theorem dX3_trustIn_3 : decode cX3_trustIn 3 = .ok (.getfield 21, 3) := by decide +kernel
theorem dX3_trustIn_6 : decode cX3_trustIn 6 = .ok (.astore_n 3, 1) := by decide +kernel
theorem dX3_trustIn_7 : decode cX3_trustIn 7 = .ok (.aload_n 3, 1) := by decide +kernel
theorem dX3_trustIn_8 : decode cX3_trustIn 8 = .ok (.arraylength, 1) := by decide +kernel
theorem dX3_trustIn_9 : decode cX3_trustIn 9 = .ok (.istore 4, 2) := by decide +kernel
theorem dX3_trustIn_11 : decode cX3_trustIn 11 = .ok (.iconst 0, 1) := by decide +kernel
theorem dX3_trustIn_12 : decode cX3_trustIn 12 = .ok (.istore 5, 2) := by decide +kernel
theorem dX3_trustIn_14 : decode cX3_trustIn 14 = .ok (.iload 5, 2) := by decide +kernel
theorem dX3_trustIn_16 : decode cX3_trustIn 16 = .ok (.iload 4, 2) := by decide +kernel
theorem dX3_trustIn_18 : decode cX3_trustIn 18 = .ok (.if_icmp .ge 35, 3) := by decide +kernel
theorem dX3_trustIn_21 : decode cX3_trustIn 21 = .ok (.aload_n 3, 1) := by decide +kernel
theorem dX3_trustIn_22 : decode cX3_trustIn 22 = .ok (.iload 5, 2) := by decide +kernel
theorem dX3_trustIn_24 : decode cX3_trustIn 24 = .ok (.aaload, 1) := by decide +kernel
theorem dX3_trustIn_25 : decode cX3_trustIn 25 = .ok (.astore 6, 2) := by decide +kernel
theorem dX3_trustIn_27 : decode cX3_trustIn 27 = .ok (.aload 6, 2) := by decide +kernel
theorem dX3_trustIn_29 : decode cX3_trustIn 29 = .ok (.iconst 1, 1) := by decide +kernel
theorem dX3_trustIn_30 : decode cX3_trustIn 30 = .ok (.iaload, 1) := by decide +kernel
theorem dX3_trustIn_31 : decode cX3_trustIn 31 = .ok (.iload_n 1, 1) := by decide +kernel
theorem dX3_trustIn_32 : decode cX3_trustIn 32 = .ok (.if_icmp .ne 15, 3) := by decide +kernel
theorem dX3_trustIn_35 : decode cX3_trustIn 35 = .ok (.iload_n 2, 1) := by decide +kernel
theorem dX3_trustIn_36 : decode cX3_trustIn 36 = .ok (.aload_n 0, 1) := by decide +kernel
theorem dX3_trustIn_37 : decode cX3_trustIn 37 = .ok (.getfield 18, 3) := by decide +kernel
theorem dX3_trustIn_40 : decode cX3_trustIn 40 = .ok (.aload 6, 2) := by decide +kernel
theorem dX3_trustIn_42 : decode cX3_trustIn 42 = .ok (.iconst 0, 1) := by decide +kernel
theorem dX3_trustIn_43 : decode cX3_trustIn 43 = .ok (.iaload, 1) := by decide +kernel
theorem dX3_trustIn_44 : decode cX3_trustIn 44 = .ok (.iaload, 1) := by decide +kernel
theorem dX3_trustIn_45 : decode cX3_trustIn 45 = .ok (.iadd, 1) := by decide +kernel
theorem dX3_trustIn_46 : decode cX3_trustIn 46 = .ok (.istore_n 2, 1) := by decide +kernel
theorem dX3_trustIn_47 : decode cX3_trustIn 47 = .ok (.iinc 5 1, 3) := by decide +kernel
theorem dX3_trustIn_50 : decode cX3_trustIn 50 = .ok (.goto (-36), 3) := by decide +kernel
theorem dX3_trustIn_53 : decode cX3_trustIn 53 = .ok (.iload_n 2, 1) := by decide +kernel
theorem dX3_trustIn_54 : decode cX3_trustIn 54 = .ok (.ireturn, 1) := by decide +kernel
theorem dX3_isSighted_0 : decode cX3_isSighted 0 = .ok (.iconst 0, 1) := by decide +kernel
theorem dX3_isSighted_1 : decode cX3_isSighted 1 = .ok (.istore_n 3, 1) := by decide +kernel
theorem dX3_isSighted_2 : decode cX3_isSighted 2 = .ok (.aload_n 0, 1) := by decide +kernel
theorem dX3_isSighted_3 : decode cX3_isSighted 3 = .ok (.getfield 21, 3) := by decide +kernel
theorem dX3_isSighted_6 : decode cX3_isSighted 6 = .ok (.astore 4, 2) := by decide +kernel
theorem dX3_isSighted_8 : decode cX3_isSighted 8 = .ok (.aload 4, 2) := by decide +kernel
theorem dX3_isSighted_10 : decode cX3_isSighted 10 = .ok (.arraylength, 1) := by decide +kernel
theorem dX3_isSighted_11 : decode cX3_isSighted 11 = .ok (.istore 5, 2) := by decide +kernel
theorem dX3_isSighted_13 : decode cX3_isSighted 13 = .ok (.iconst 0, 1) := by decide +kernel
theorem dX3_isSighted_14 : decode cX3_isSighted 14 = .ok (.istore 6, 2) := by decide +kernel
theorem dX3_isSighted_16 : decode cX3_isSighted 16 = .ok (.iload 6, 2) := by decide +kernel
theorem dX3_isSighted_18 : decode cX3_isSighted 18 = .ok (.iload 5, 2) := by decide +kernel
theorem dX3_isSighted_20 : decode cX3_isSighted 20 = .ok (.if_icmp .ge 40, 3) := by decide +kernel
theorem dX3_isSighted_23 : decode cX3_isSighted 23 = .ok (.aload 4, 2) := by decide +kernel
theorem dX3_isSighted_25 : decode cX3_isSighted 25 = .ok (.iload 6, 2) := by decide +kernel
theorem dX3_isSighted_27 : decode cX3_isSighted 27 = .ok (.aaload, 1) := by decide +kernel
theorem dX3_isSighted_28 : decode cX3_isSighted 28 = .ok (.astore 7, 2) := by decide +kernel
theorem dX3_isSighted_30 : decode cX3_isSighted 30 = .ok (.iload_n 3, 1) := by decide +kernel
theorem dX3_isSighted_31 : decode cX3_isSighted 31 = .ok (.aload 7, 2) := by decide +kernel
theorem dX3_isSighted_33 : decode cX3_isSighted 33 = .ok (.iconst 0, 1) := by decide +kernel
theorem dX3_isSighted_34 : decode cX3_isSighted 34 = .ok (.iaload, 1) := by decide +kernel
theorem dX3_isSighted_35 : decode cX3_isSighted 35 = .ok (.iload_n 1, 1) := by decide +kernel
theorem dX3_isSighted_36 : decode cX3_isSighted 36 = .ok (.if_icmp .ne 15, 3) := by decide +kernel
theorem dX3_isSighted_39 : decode cX3_isSighted 39 = .ok (.aload 7, 2) := by decide +kernel
theorem dX3_isSighted_41 : decode cX3_isSighted 41 = .ok (.iconst 1, 1) := by decide +kernel
theorem dX3_isSighted_42 : decode cX3_isSighted 42 = .ok (.iaload, 1) := by decide +kernel
theorem dX3_isSighted_43 : decode cX3_isSighted 43 = .ok (.iload_n 2, 1) := by decide +kernel
theorem dX3_isSighted_44 : decode cX3_isSighted 44 = .ok (.if_icmp .ne 7, 3) := by decide +kernel
theorem dX3_isSighted_47 : decode cX3_isSighted 47 = .ok (.iconst 1, 1) := by decide +kernel
theorem dX3_isSighted_48 : decode cX3_isSighted 48 = .ok (.goto 4, 3) := by decide +kernel
theorem dX3_isSighted_51 : decode cX3_isSighted 51 = .ok (.iconst 0, 1) := by decide +kernel
theorem dX3_isSighted_52 : decode cX3_isSighted 52 = .ok (.ior, 1) := by decide +kernel
theorem dX3_isSighted_53 : decode cX3_isSighted 53 = .ok (.istore_n 3, 1) := by decide +kernel
theorem dX3_isSighted_54 : decode cX3_isSighted 54 = .ok (.iinc 6 1, 3) := by decide +kernel
theorem dX3_isSighted_57 : decode cX3_isSighted 57 = .ok (.goto (-41), 3) := by decide +kernel
theorem dX3_isSighted_60 : decode cX3_isSighted 60 = .ok (.iload_n 3, 1) := by decide +kernel
theorem dX3_isSighted_61 : decode cX3_isSighted 61 = .ok (.ireturn, 1) := by decide +kernel
set_option maxRecDepth 20000 in
theorem ggX3_drop_X3_more : GoodIn wsX3_drop wsX3_more := goodIn_r _ [6, 1] (by decide +kernel) (by decide +kernel)
set_option maxRecDepth 20000 in
theorem gX3_drop_X3_more : GoodIn wsX3_drop (va_wsS RX3 43 yX3_more wsX3_more) := goodIn_app (goodIn_of _ (by decide +kernel)) ggX3_drop_X3_more
theorem dX3_drop_0 : decode cX3_drop 0 = .ok (.iconst 0, 1) := by decide +kernel
theorem dX3_drop_1 : decode cX3_drop 1 = .ok (.anewarray 7, 3) := by decide +kernel
theorem dX3_drop_4 : decode cX3_drop 4 = .ok (.astore_n 3, 1) := by decide +kernel
theorem dX3_drop_5 : decode cX3_drop 5 = .ok (.aload_n 0, 1) := by decide +kernel
theorem dX3_drop_6 : decode cX3_drop 6 = .ok (.getfield 21, 3) := by decide +kernel
theorem dX3_drop_9 : decode cX3_drop 9 = .ok (.astore 4, 2) := by decide +kernel
theorem dX3_drop_11 : decode cX3_drop 11 = .ok (.aload 4, 2) := by decide +kernel
theorem dX3_drop_13 : decode cX3_drop 13 = .ok (.arraylength, 1) := by decide +kernel
theorem dX3_drop_14 : decode cX3_drop 14 = .ok (.istore 5, 2) := by decide +kernel
theorem dX3_drop_16 : decode cX3_drop 16 = .ok (.iconst 0, 1) := by decide +kernel
theorem dX3_drop_17 : decode cX3_drop 17 = .ok (.istore 6, 2) := by decide +kernel
theorem dX3_drop_19 : decode cX3_drop 19 = .ok (.iload 6, 2) := by decide +kernel
theorem dX3_drop_21 : decode cX3_drop 21 = .ok (.iload 5, 2) := by decide +kernel
theorem dX3_drop_23 : decode cX3_drop 23 = .ok (.if_icmp .ge 39, 3) := by decide +kernel
theorem dX3_drop_26 : decode cX3_drop 26 = .ok (.aload 4, 2) := by decide +kernel
theorem dX3_drop_28 : decode cX3_drop 28 = .ok (.iload 6, 2) := by decide +kernel
theorem dX3_drop_30 : decode cX3_drop 30 = .ok (.aaload, 1) := by decide +kernel
theorem dX3_drop_31 : decode cX3_drop 31 = .ok (.astore 7, 2) := by decide +kernel
theorem dX3_drop_33 : decode cX3_drop 33 = .ok (.aload 7, 2) := by decide +kernel
theorem dX3_drop_35 : decode cX3_drop 35 = .ok (.iconst 1, 1) := by decide +kernel
theorem dX3_drop_36 : decode cX3_drop 36 = .ok (.iaload, 1) := by decide +kernel
theorem dX3_drop_37 : decode cX3_drop 37 = .ok (.iload_n 1, 1) := by decide +kernel
theorem dX3_drop_38 : decode cX3_drop 38 = .ok (.if_icmp .eq 18, 3) := by decide +kernel
theorem dX3_drop_41 : decode cX3_drop 41 = .ok (.aload 7, 2) := by decide +kernel
theorem dX3_drop_43 : decode cX3_drop 43 = .ok (.iconst 2, 1) := by decide +kernel
theorem dX3_drop_44 : decode cX3_drop 44 = .ok (.iaload, 1) := by decide +kernel
theorem dX3_drop_45 : decode cX3_drop 45 = .ok (.iload_n 2, 1) := by decide +kernel
theorem dX3_drop_46 : decode cX3_drop 46 = .ok (.if_icmp .ge 10, 3) := by decide +kernel
theorem dX3_drop_49 : decode cX3_drop 49 = .ok (.aload_n 3, 1) := by decide +kernel
theorem dX3_drop_50 : decode cX3_drop 50 = .ok (.aload 7, 2) := by decide +kernel
theorem dX3_drop_52 : decode cX3_drop 52 = .ok (.invokestatic 43, 3) := by decide +kernel
theorem dX3_drop_55 : decode cX3_drop 55 = .ok (.astore_n 3, 1) := by decide +kernel
theorem dX3_drop_56 : decode cX3_drop 56 = .ok (.iinc 6 1, 3) := by decide +kernel
theorem dX3_drop_59 : decode cX3_drop 59 = .ok (.goto (-40), 3) := by decide +kernel
theorem dX3_drop_62 : decode cX3_drop 62 = .ok (.aload_n 0, 1) := by decide +kernel
theorem dX3_drop_63 : decode cX3_drop 63 = .ok (.aload_n 3, 1) := by decide +kernel
theorem dX3_drop_64 : decode cX3_drop 64 = .ok (.putfield 21, 3) := by decide +kernel
theorem dX3_drop_67 : decode cX3_drop 67 = .ok (.return_, 1) := by decide +kernel
theorem dX3_votes_0 : decode cX3_votes 0 = .ok (.iconst 0, 1) := by decide +kernel
theorem dX3_votes_1 : decode cX3_votes 1 = .ok (.istore_n 3, 1) := by decide +kernel
theorem dX3_votes_2 : decode cX3_votes 2 = .ok (.aload_n 0, 1) := by decide +kernel
theorem dX3_votes_3 : decode cX3_votes 3 = .ok (.getfield 15, 3) := by decide +kernel
theorem dX3_votes_6 : decode cX3_votes 6 = .ok (.astore 4, 2) := by decide +kernel
theorem dX3_votes_8 : decode cX3_votes 8 = .ok (.aload 4, 2) := by decide +kernel
theorem dX3_votes_10 : decode cX3_votes 10 = .ok (.arraylength, 1) := by decide +kernel
theorem dX3_votes_11 : decode cX3_votes 11 = .ok (.istore 5, 2) := by decide +kernel
theorem dX3_votes_13 : decode cX3_votes 13 = .ok (.iconst 0, 1) := by decide +kernel
theorem dX3_votes_14 : decode cX3_votes 14 = .ok (.istore 6, 2) := by decide +kernel
theorem dX3_votes_16 : decode cX3_votes 16 = .ok (.iload 6, 2) := by decide +kernel
theorem dX3_votes_18 : decode cX3_votes 18 = .ok (.iload 5, 2) := by decide +kernel
theorem dX3_votes_20 : decode cX3_votes 20 = .ok (.if_icmp .ge 47, 3) := by decide +kernel
theorem dX3_votes_23 : decode cX3_votes 23 = .ok (.aload 4, 2) := by decide +kernel
theorem dX3_votes_25 : decode cX3_votes 25 = .ok (.iload 6, 2) := by decide +kernel
theorem dX3_votes_27 : decode cX3_votes 27 = .ok (.aaload, 1) := by decide +kernel
theorem dX3_votes_28 : decode cX3_votes 28 = .ok (.astore 7, 2) := by decide +kernel
theorem dX3_votes_30 : decode cX3_votes 30 = .ok (.aload 7, 2) := by decide +kernel
theorem dX3_votes_32 : decode cX3_votes 32 = .ok (.iconst 0, 1) := by decide +kernel
theorem dX3_votes_33 : decode cX3_votes 33 = .ok (.iaload, 1) := by decide +kernel
theorem dX3_votes_34 : decode cX3_votes 34 = .ok (.iload_n 1, 1) := by decide +kernel
theorem dX3_votes_35 : decode cX3_votes 35 = .ok (.if_icmp .ne 26, 3) := by decide +kernel
theorem dX3_votes_38 : decode cX3_votes 38 = .ok (.aload 7, 2) := by decide +kernel
theorem dX3_votes_40 : decode cX3_votes 40 = .ok (.iconst 2, 1) := by decide +kernel
theorem dX3_votes_41 : decode cX3_votes 41 = .ok (.iaload, 1) := by decide +kernel
theorem dX3_votes_42 : decode cX3_votes 42 = .ok (.iconst 1, 1) := by decide +kernel
theorem dX3_votes_43 : decode cX3_votes 43 = .ok (.if_icmp .ne 18, 3) := by decide +kernel
theorem dX3_votes_46 : decode cX3_votes 46 = .ok (.aload 7, 2) := by decide +kernel
theorem dX3_votes_48 : decode cX3_votes 48 = .ok (.iconst 3, 1) := by decide +kernel
theorem dX3_votes_49 : decode cX3_votes 49 = .ok (.iaload, 1) := by decide +kernel
theorem dX3_votes_50 : decode cX3_votes 50 = .ok (.iconst 1, 1) := by decide +kernel
theorem dX3_votes_51 : decode cX3_votes 51 = .ok (.if_icmp .eq 7, 3) := by decide +kernel
theorem dX3_votes_54 : decode cX3_votes 54 = .ok (.iload_n 2, 1) := by decide +kernel
theorem dX3_votes_55 : decode cX3_votes 55 = .ok (.ifCond .ne 6, 3) := by decide +kernel
theorem dX3_votes_58 : decode cX3_votes 58 = .ok (.iinc 3 1, 3) := by decide +kernel
theorem dX3_votes_61 : decode cX3_votes 61 = .ok (.iinc 6 1, 3) := by decide +kernel
theorem dX3_votes_64 : decode cX3_votes 64 = .ok (.goto (-48), 3) := by decide +kernel
theorem dX3_votes_67 : decode cX3_votes 67 = .ok (.iload_n 3, 1) := by decide +kernel
theorem dX3_votes_68 : decode cX3_votes 68 = .ok (.ireturn, 1) := by decide +kernel
theorem dX3_isDark_0 : decode cX3_isDark 0 = .ok (.aload_n 0, 1) := by decide +kernel
theorem dX3_isDark_1 : decode cX3_isDark 1 = .ok (.getfield 9, 3) := by decide +kernel
theorem dX3_isDark_4 : decode cX3_isDark 4 = .ok (.aload_n 1, 1) := by decide +kernel
theorem dX3_isDark_5 : decode cX3_isDark 5 = .ok (.iconst 0, 1) := by decide +kernel
theorem dX3_isDark_6 : decode cX3_isDark 6 = .ok (.iaload, 1) := by decide +kernel
theorem dX3_isDark_7 : decode cX3_isDark 7 = .ok (.aaload, 1) := by decide +kernel
theorem dX3_isDark_8 : decode cX3_isDark 8 = .ok (.iconst 1, 1) := by decide +kernel
theorem dX3_isDark_9 : decode cX3_isDark 9 = .ok (.iaload, 1) := by decide +kernel
theorem dX3_isDark_10 : decode cX3_isDark 10 = .ok (.iconst 1, 1) := by decide +kernel
theorem dX3_isDark_11 : decode cX3_isDark 11 = .ok (.if_icmp .ne 13, 3) := by decide +kernel
theorem dX3_isDark_14 : decode cX3_isDark 14 = .ok (.aload_n 1, 1) := by decide +kernel
theorem dX3_isDark_15 : decode cX3_isDark 15 = .ok (.iconst 4, 1) := by decide +kernel
theorem dX3_isDark_16 : decode cX3_isDark 16 = .ok (.iaload, 1) := by decide +kernel
theorem dX3_isDark_17 : decode cX3_isDark 17 = .ok (.ifCond .ne 7, 3) := by decide +kernel
theorem dX3_isDark_20 : decode cX3_isDark 20 = .ok (.iconst 1, 1) := by decide +kernel
theorem dX3_isDark_21 : decode cX3_isDark 21 = .ok (.goto 4, 3) := by decide +kernel
theorem dX3_isDark_24 : decode cX3_isDark 24 = .ok (.iconst 0, 1) := by decide +kernel
theorem dX3_isDark_25 : decode cX3_isDark 25 = .ok (.ireturn, 1) := by decide +kernel
set_option maxRecDepth 20000 in
theorem ggX3_dark_X3_isDark : GoodIn wsX3_dark wsX3_isDark := goodIn_r _ [6, 7, 8, 9, 10, 11, 12, 13, 14] (by decide +kernel) (by decide +kernel)
set_option maxRecDepth 20000 in
theorem gX3_dark_X3_isDark : GoodIn wsX3_dark (wsV RX3 47 RX3 yX3_isDark wsX3_isDark) := goodIn_app (goodIn_of _ (by decide +kernel)) ggX3_dark_X3_isDark
theorem dX3_dark_0 : decode cX3_dark 0 = .ok (.iconst 0, 1) := by decide +kernel
theorem dX3_dark_1 : decode cX3_dark 1 = .ok (.istore_n 1, 1) := by decide +kernel
theorem dX3_dark_2 : decode cX3_dark 2 = .ok (.aload_n 0, 1) := by decide +kernel
theorem dX3_dark_3 : decode cX3_dark 3 = .ok (.getfield 15, 3) := by decide +kernel
theorem dX3_dark_6 : decode cX3_dark 6 = .ok (.astore_n 2, 1) := by decide +kernel
theorem dX3_dark_7 : decode cX3_dark 7 = .ok (.aload_n 2, 1) := by decide +kernel
theorem dX3_dark_8 : decode cX3_dark 8 = .ok (.arraylength, 1) := by decide +kernel
theorem dX3_dark_9 : decode cX3_dark 9 = .ok (.istore_n 3, 1) := by decide +kernel
theorem dX3_dark_10 : decode cX3_dark 10 = .ok (.iconst 0, 1) := by decide +kernel
theorem dX3_dark_11 : decode cX3_dark 11 = .ok (.istore 4, 2) := by decide +kernel
theorem dX3_dark_13 : decode cX3_dark 13 = .ok (.iload 4, 2) := by decide +kernel
theorem dX3_dark_15 : decode cX3_dark 15 = .ok (.iload_n 3, 1) := by decide +kernel
theorem dX3_dark_16 : decode cX3_dark 16 = .ok (.if_icmp .ge 32, 3) := by decide +kernel
theorem dX3_dark_19 : decode cX3_dark 19 = .ok (.aload_n 2, 1) := by decide +kernel
theorem dX3_dark_20 : decode cX3_dark 20 = .ok (.iload 4, 2) := by decide +kernel
theorem dX3_dark_22 : decode cX3_dark 22 = .ok (.aaload, 1) := by decide +kernel
theorem dX3_dark_23 : decode cX3_dark 23 = .ok (.astore 5, 2) := by decide +kernel
theorem dX3_dark_25 : decode cX3_dark 25 = .ok (.iload_n 1, 1) := by decide +kernel
theorem dX3_dark_26 : decode cX3_dark 26 = .ok (.aload_n 0, 1) := by decide +kernel
theorem dX3_dark_27 : decode cX3_dark 27 = .ok (.aload 5, 2) := by decide +kernel
theorem dX3_dark_29 : decode cX3_dark 29 = .ok (.invokevirtual 47, 3) := by decide +kernel
theorem dX3_dark_32 : decode cX3_dark 32 = .ok (.ifCond .eq 7, 3) := by decide +kernel
theorem dX3_dark_35 : decode cX3_dark 35 = .ok (.iconst 1, 1) := by decide +kernel
theorem dX3_dark_36 : decode cX3_dark 36 = .ok (.goto 4, 3) := by decide +kernel
theorem dX3_dark_39 : decode cX3_dark 39 = .ok (.iconst 0, 1) := by decide +kernel
theorem dX3_dark_40 : decode cX3_dark 40 = .ok (.iadd, 1) := by decide +kernel
theorem dX3_dark_41 : decode cX3_dark 41 = .ok (.istore_n 1, 1) := by decide +kernel
theorem dX3_dark_42 : decode cX3_dark 42 = .ok (.iinc 4 1, 3) := by decide +kernel
theorem dX3_dark_45 : decode cX3_dark 45 = .ok (.goto (-32), 3) := by decide +kernel
theorem dX3_dark_48 : decode cX3_dark 48 = .ok (.iload_n 1, 1) := by decide +kernel
theorem dX3_dark_49 : decode cX3_dark 49 = .ok (.ireturn, 1) := by decide +kernel
theorem dX3_light_0 : decode cX3_light 0 = .ok (.aload_n 0, 1) := by decide +kernel
theorem dX3_light_1 : decode cX3_light 1 = .ok (.getfield 33, 3) := by decide +kernel
theorem dX3_light_4 : decode cX3_light 4 = .ok (.bipush 12, 2) := by decide +kernel
theorem dX3_light_6 : decode cX3_light 6 = .ok (.if_icmp .ge 5, 3) := by decide +kernel
theorem dX3_light_9 : decode cX3_light 9 = .ok (.iconst 0, 1) := by decide +kernel
theorem dX3_light_10 : decode cX3_light 10 = .ok (.ireturn, 1) := by decide +kernel
theorem dX3_light_11 : decode cX3_light 11 = .ok (.aload_n 0, 1) := by decide +kernel
theorem dX3_light_12 : decode cX3_light 12 = .ok (.dup, 1) := by decide +kernel
theorem dX3_light_13 : decode cX3_light 13 = .ok (.getfield 33, 3) := by decide +kernel
theorem dX3_light_16 : decode cX3_light 16 = .ok (.bipush 12, 2) := by decide +kernel
theorem dX3_light_18 : decode cX3_light 18 = .ok (.isub, 1) := by decide +kernel
theorem dX3_light_19 : decode cX3_light 19 = .ok (.putfield 33, 3) := by decide +kernel
theorem dX3_light_22 : decode cX3_light 22 = .ok (.aload_n 1, 1) := by decide +kernel
theorem dX3_light_23 : decode cX3_light 23 = .ok (.iconst 4, 1) := by decide +kernel
theorem dX3_light_24 : decode cX3_light 24 = .ok (.bipush 12, 2) := by decide +kernel
theorem dX3_light_26 : decode cX3_light 26 = .ok (.iastore, 1) := by decide +kernel
theorem dX3_light_27 : decode cX3_light 27 = .ok (.iconst 1, 1) := by decide +kernel
theorem dX3_light_28 : decode cX3_light 28 = .ok (.ireturn, 1) := by decide +kernel
set_option maxRecDepth 20000 in
theorem ggX3_ends_X3_drop : GoodIn wsX3_ends wsX3_drop := goodIn_r _ [8, 9, 10, 11, 12, 7, 13, 14, 15, 16, 17, 18, 19, 20] (by decide +kernel) (by decide +kernel)
set_option maxRecDepth 20000 in
theorem gX3_ends_X3_drop : GoodIn wsX3_ends (wsV RX3 51 RX3 yX3_drop wsX3_drop) := goodIn_app (goodIn_of _ (by decide +kernel)) ggX3_ends_X3_drop
theorem dX3_ends_0 : decode cX3_ends 0 = .ok (.aload_n 0, 1) := by decide +kernel
theorem dX3_ends_1 : decode cX3_ends 1 = .ok (.iload_n 1, 1) := by decide +kernel
theorem dX3_ends_2 : decode cX3_ends 2 = .ok (.bipush 99, 2) := by decide +kernel
theorem dX3_ends_4 : decode cX3_ends 4 = .ok (.invokevirtual 51, 3) := by decide +kernel
theorem dX3_ends_7 : decode cX3_ends 7 = .ok (.aload_n 0, 1) := by decide +kernel
theorem dX3_ends_8 : decode cX3_ends 8 = .ok (.getfield 9, 3) := by decide +kernel
theorem dX3_ends_11 : decode cX3_ends 11 = .ok (.iload_n 1, 1) := by decide +kernel
theorem dX3_ends_12 : decode cX3_ends 12 = .ok (.aaload, 1) := by decide +kernel
theorem dX3_ends_13 : decode cX3_ends 13 = .ok (.iconst 3, 1) := by decide +kernel
theorem dX3_ends_14 : decode cX3_ends 14 = .ok (.iconst 0, 1) := by decide +kernel
theorem dX3_ends_15 : decode cX3_ends 15 = .ok (.iastore, 1) := by decide +kernel
theorem dX3_ends_16 : decode cX3_ends 16 = .ok (.aload_n 0, 1) := by decide +kernel
theorem dX3_ends_17 : decode cX3_ends 17 = .ok (.getfield 15, 3) := by decide +kernel
theorem dX3_ends_20 : decode cX3_ends 20 = .ok (.astore_n 2, 1) := by decide +kernel
theorem dX3_ends_21 : decode cX3_ends 21 = .ok (.aload_n 2, 1) := by decide +kernel
theorem dX3_ends_22 : decode cX3_ends 22 = .ok (.arraylength, 1) := by decide +kernel
theorem dX3_ends_23 : decode cX3_ends 23 = .ok (.istore_n 3, 1) := by decide +kernel
theorem dX3_ends_24 : decode cX3_ends 24 = .ok (.iconst 0, 1) := by decide +kernel
theorem dX3_ends_25 : decode cX3_ends 25 = .ok (.istore 4, 2) := by decide +kernel
theorem dX3_ends_27 : decode cX3_ends 27 = .ok (.iload 4, 2) := by decide +kernel
theorem dX3_ends_29 : decode cX3_ends 29 = .ok (.iload_n 3, 1) := by decide +kernel
theorem dX3_ends_30 : decode cX3_ends 30 = .ok (.if_icmp .ge 44, 3) := by decide +kernel
theorem dX3_ends_33 : decode cX3_ends 33 = .ok (.aload_n 2, 1) := by decide +kernel
theorem dX3_ends_34 : decode cX3_ends 34 = .ok (.iload 4, 2) := by decide +kernel
theorem dX3_ends_36 : decode cX3_ends 36 = .ok (.aaload, 1) := by decide +kernel
theorem dX3_ends_37 : decode cX3_ends 37 = .ok (.astore 5, 2) := by decide +kernel
theorem dX3_ends_39 : decode cX3_ends 39 = .ok (.aload 5, 2) := by decide +kernel
theorem dX3_ends_41 : decode cX3_ends 41 = .ok (.iconst 0, 1) := by decide +kernel
theorem dX3_ends_42 : decode cX3_ends 42 = .ok (.iaload, 1) := by decide +kernel
theorem dX3_ends_43 : decode cX3_ends 43 = .ok (.iload_n 1, 1) := by decide +kernel
theorem dX3_ends_44 : decode cX3_ends 44 = .ok (.if_icmp .eq 6, 3) := by decide +kernel
theorem dX3_ends_47 : decode cX3_ends 47 = .ok (.goto 21, 3) := by decide +kernel
theorem dX3_ends_50 : decode cX3_ends 50 = .ok (.aload_n 0, 1) := by decide +kernel
theorem dX3_ends_51 : decode cX3_ends 51 = .ok (.dup, 1) := by decide +kernel
theorem dX3_ends_52 : decode cX3_ends 52 = .ok (.getfield 33, 3) := by decide +kernel
theorem dX3_ends_55 : decode cX3_ends 55 = .ok (.aload 5, 2) := by decide +kernel
theorem dX3_ends_57 : decode cX3_ends 57 = .ok (.iconst 4, 1) := by decide +kernel
theorem dX3_ends_58 : decode cX3_ends 58 = .ok (.iaload, 1) := by decide +kernel
theorem dX3_ends_59 : decode cX3_ends 59 = .ok (.iadd, 1) := by decide +kernel
theorem dX3_ends_60 : decode cX3_ends 60 = .ok (.putfield 33, 3) := by decide +kernel
theorem dX3_ends_63 : decode cX3_ends 63 = .ok (.aload 5, 2) := by decide +kernel
theorem dX3_ends_65 : decode cX3_ends 65 = .ok (.iconst 4, 1) := by decide +kernel
theorem dX3_ends_66 : decode cX3_ends 66 = .ok (.iconst 0, 1) := by decide +kernel
theorem dX3_ends_67 : decode cX3_ends 67 = .ok (.iastore, 1) := by decide +kernel
theorem dX3_ends_68 : decode cX3_ends 68 = .ok (.iinc 4 1, 3) := by decide +kernel
theorem dX3_ends_71 : decode cX3_ends 71 = .ok (.goto (-44), 3) := by decide +kernel
theorem dX3_ends_74 : decode cX3_ends 74 = .ok (.return_, 1) := by decide +kernel
set_option maxRecDepth 20000 in
theorem ggX3_pass_X3_drop : GoodIn wsX3_pass wsX3_drop := goodIn_r _ [11, 12, 1, 13, 14, 10, 15, 33, 34, 35, 36, 37, 38, 39] (by decide +kernel) (by decide +kernel)
set_option maxRecDepth 20000 in
theorem gX3_pass_X3_drop : GoodIn wsX3_pass (wsV RX3 51 RX3 yX3_drop wsX3_drop) := goodIn_app (goodIn_of _ (by decide +kernel)) ggX3_pass_X3_drop
set_option maxRecDepth 20000 in
theorem ggX3_pass_X3_trustIn : GoodIn wsX3_pass wsX3_trustIn := goodIn_r _ [19, 1, 2, 33, 34, 35, 36, 37, 38, 39] (by decide +kernel) (by decide +kernel)
set_option maxRecDepth 20000 in
theorem gX3_pass_X3_trustIn : GoodIn wsX3_pass (wsV RX3 55 RX3 yX3_trustIn wsX3_trustIn) := goodIn_app (goodIn_of _ (by decide +kernel)) ggX3_pass_X3_trustIn
set_option maxRecDepth 20000 in
theorem ggX3_pass_X3_light : GoodIn wsX3_pass wsX3_light := goodIn_r _ [23, 24, 33, 34, 35, 36, 37, 38, 39] (by decide +kernel) (by decide +kernel)
set_option maxRecDepth 20000 in
theorem gX3_pass_X3_light : GoodIn wsX3_pass (wsV RX3 59 RX3 yX3_light wsX3_light) := goodIn_app (goodIn_of _ (by decide +kernel)) ggX3_pass_X3_light
set_option maxRecDepth 20000 in
theorem ggX3_pass_X3_votes : GoodIn wsX3_pass wsX3_votes := goodIn_r _ [28, 5, 33, 34, 35, 36, 37, 38, 39] (by decide +kernel) (by decide +kernel)
set_option maxRecDepth 20000 in
theorem gX3_pass_X3_votes : GoodIn wsX3_pass (wsV RX3 62 RX3 yX3_votes wsX3_votes) := goodIn_app (goodIn_of _ (by decide +kernel)) ggX3_pass_X3_votes
set_option maxRecDepth 20000 in
theorem ggX3_pass_X3_ends : GoodIn wsX3_pass wsX3_ends := goodIn_r _ [32, 3, 5, 24, 7, 8, 9, 10, 11, 12, 1, 13, 14, 15, 33, 34, 35, 36, 37, 38, 39] (by decide +kernel) (by decide +kernel)
set_option maxRecDepth 20000 in
theorem gX3_pass_X3_ends : GoodIn wsX3_pass (wsV RX3 66 RX3 yX3_ends wsX3_ends) := goodIn_app (goodIn_of _ (by decide +kernel)) ggX3_pass_X3_ends
theorem dX3_pass_0 : decode cX3_pass 0 = .ok (.iconst 0, 1) := by decide +kernel
theorem dX3_pass_1 : decode cX3_pass 1 = .ok (.istore_n 1, 1) := by decide +kernel
theorem dX3_pass_2 : decode cX3_pass 2 = .ok (.aload_n 0, 1) := by decide +kernel
theorem dX3_pass_3 : decode cX3_pass 3 = .ok (.getfield 21, 3) := by decide +kernel
theorem dX3_pass_6 : decode cX3_pass 6 = .ok (.astore_n 2, 1) := by decide +kernel
theorem dX3_pass_7 : decode cX3_pass 7 = .ok (.aload_n 2, 1) := by decide +kernel
theorem dX3_pass_8 : decode cX3_pass 8 = .ok (.arraylength, 1) := by decide +kernel
theorem dX3_pass_9 : decode cX3_pass 9 = .ok (.istore_n 3, 1) := by decide +kernel
theorem dX3_pass_10 : decode cX3_pass 10 = .ok (.iconst 0, 1) := by decide +kernel
theorem dX3_pass_11 : decode cX3_pass 11 = .ok (.istore 4, 2) := by decide +kernel
theorem dX3_pass_13 : decode cX3_pass 13 = .ok (.iload 4, 2) := by decide +kernel
theorem dX3_pass_15 : decode cX3_pass 15 = .ok (.iload_n 3, 1) := by decide +kernel
theorem dX3_pass_16 : decode cX3_pass 16 = .ok (.if_icmp .ge 68, 3) := by decide +kernel
theorem dX3_pass_19 : decode cX3_pass 19 = .ok (.aload_n 2, 1) := by decide +kernel
theorem dX3_pass_20 : decode cX3_pass 20 = .ok (.iload 4, 2) := by decide +kernel
theorem dX3_pass_22 : decode cX3_pass 22 = .ok (.aaload, 1) := by decide +kernel
theorem dX3_pass_23 : decode cX3_pass 23 = .ok (.astore 5, 2) := by decide +kernel
theorem dX3_pass_25 : decode cX3_pass 25 = .ok (.aload 5, 2) := by decide +kernel
theorem dX3_pass_27 : decode cX3_pass 27 = .ok (.iconst 2, 1) := by decide +kernel
theorem dX3_pass_28 : decode cX3_pass 28 = .ok (.dup2, 1) := by decide +kernel
theorem dX3_pass_29 : decode cX3_pass 29 = .ok (.iaload, 1) := by decide +kernel
theorem dX3_pass_30 : decode cX3_pass 30 = .ok (.iconst 1, 1) := by decide +kernel
theorem dX3_pass_31 : decode cX3_pass 31 = .ok (.iadd, 1) := by decide +kernel
theorem dX3_pass_32 : decode cX3_pass 32 = .ok (.iastore, 1) := by decide +kernel
theorem dX3_pass_33 : decode cX3_pass 33 = .ok (.aload 5, 2) := by decide +kernel
theorem dX3_pass_35 : decode cX3_pass 35 = .ok (.iconst 2, 1) := by decide +kernel
theorem dX3_pass_36 : decode cX3_pass 36 = .ok (.iaload, 1) := by decide +kernel
theorem dX3_pass_37 : decode cX3_pass 37 = .ok (.iconst 3, 1) := by decide +kernel
theorem dX3_pass_38 : decode cX3_pass 38 = .ok (.if_icmp .ne 40, 3) := by decide +kernel
theorem dX3_pass_41 : decode cX3_pass 41 = .ok (.aload_n 0, 1) := by decide +kernel
theorem dX3_pass_42 : decode cX3_pass 42 = .ok (.getfield 18, 3) := by decide +kernel
theorem dX3_pass_45 : decode cX3_pass 45 = .ok (.aload 5, 2) := by decide +kernel
theorem dX3_pass_47 : decode cX3_pass 47 = .ok (.iconst 0, 1) := by decide +kernel
theorem dX3_pass_48 : decode cX3_pass 48 = .ok (.iaload, 1) := by decide +kernel
theorem dX3_pass_49 : decode cX3_pass 49 = .ok (.aload_n 0, 1) := by decide +kernel
theorem dX3_pass_50 : decode cX3_pass 50 = .ok (.getfield 18, 3) := by decide +kernel
theorem dX3_pass_53 : decode cX3_pass 53 = .ok (.aload 5, 2) := by decide +kernel
theorem dX3_pass_55 : decode cX3_pass 55 = .ok (.iconst 0, 1) := by decide +kernel
theorem dX3_pass_56 : decode cX3_pass 56 = .ok (.iaload, 1) := by decide +kernel
theorem dX3_pass_57 : decode cX3_pass 57 = .ok (.iaload, 1) := by decide +kernel
theorem dX3_pass_58 : decode cX3_pass 58 = .ok (.iconst 2, 1) := by decide +kernel
theorem dX3_pass_59 : decode cX3_pass 59 = .ok (.if_icmp .ge 7, 3) := by decide +kernel
theorem dX3_pass_62 : decode cX3_pass 62 = .ok (.iconst 0, 1) := by decide +kernel
theorem dX3_pass_63 : decode cX3_pass 63 = .ok (.goto 14, 3) := by decide +kernel
theorem dX3_pass_66 : decode cX3_pass 66 = .ok (.aload_n 0, 1) := by decide +kernel
theorem dX3_pass_67 : decode cX3_pass 67 = .ok (.getfield 18, 3) := by decide +kernel
theorem dX3_pass_70 : decode cX3_pass 70 = .ok (.aload 5, 2) := by decide +kernel
theorem dX3_pass_72 : decode cX3_pass 72 = .ok (.iconst 0, 1) := by decide +kernel
theorem dX3_pass_73 : decode cX3_pass 73 = .ok (.iaload, 1) := by decide +kernel
theorem dX3_pass_74 : decode cX3_pass 74 = .ok (.iaload, 1) := by decide +kernel
theorem dX3_pass_75 : decode cX3_pass 75 = .ok (.iconst 2, 1) := by decide +kernel
theorem dX3_pass_76 : decode cX3_pass 76 = .ok (.isub, 1) := by decide +kernel
theorem dX3_pass_77 : decode cX3_pass 77 = .ok (.iastore, 1) := by decide +kernel
theorem dX3_pass_78 : decode cX3_pass 78 = .ok (.iinc 4 1, 3) := by decide +kernel
theorem dX3_pass_81 : decode cX3_pass 81 = .ok (.goto (-68), 3) := by decide +kernel
theorem dX3_pass_84 : decode cX3_pass 84 = .ok (.aload_n 0, 1) := by decide +kernel
theorem dX3_pass_85 : decode cX3_pass 85 = .ok (.iconst (-1), 1) := by decide +kernel
theorem dX3_pass_86 : decode cX3_pass 86 = .ok (.iconst 3, 1) := by decide +kernel
theorem dX3_pass_87 : decode cX3_pass 87 = .ok (.invokevirtual 51, 3) := by decide +kernel
theorem dX3_pass_90 : decode cX3_pass 90 = .ok (.iconst 0, 1) := by decide +kernel
theorem dX3_pass_91 : decode cX3_pass 91 = .ok (.istore_n 2, 1) := by decide +kernel
theorem dX3_pass_92 : decode cX3_pass 92 = .ok (.iload_n 2, 1) := by decide +kernel
theorem dX3_pass_93 : decode cX3_pass 93 = .ok (.aload_n 0, 1) := by decide +kernel
theorem dX3_pass_94 : decode cX3_pass 94 = .ok (.getfield 9, 3) := by decide +kernel
theorem dX3_pass_97 : decode cX3_pass 97 = .ok (.arraylength, 1) := by decide +kernel
theorem dX3_pass_98 : decode cX3_pass 98 = .ok (.if_icmp .ge 51, 3) := by decide +kernel
theorem dX3_pass_101 : decode cX3_pass 101 = .ok (.aload_n 0, 1) := by decide +kernel
theorem dX3_pass_102 : decode cX3_pass 102 = .ok (.getfield 9, 3) := by decide +kernel
theorem dX3_pass_105 : decode cX3_pass 105 = .ok (.iload_n 2, 1) := by decide +kernel
theorem dX3_pass_106 : decode cX3_pass 106 = .ok (.aaload, 1) := by decide +kernel
theorem dX3_pass_107 : decode cX3_pass 107 = .ok (.iconst 3, 1) := by decide +kernel
theorem dX3_pass_108 : decode cX3_pass 108 = .ok (.iaload, 1) := by decide +kernel
theorem dX3_pass_109 : decode cX3_pass 109 = .ok (.ifCond .eq 34, 3) := by decide +kernel
theorem dX3_pass_112 : decode cX3_pass 112 = .ok (.aload_n 0, 1) := by decide +kernel
theorem dX3_pass_113 : decode cX3_pass 113 = .ok (.iload_n 2, 1) := by decide +kernel
theorem dX3_pass_114 : decode cX3_pass 114 = .ok (.invokevirtual 55, 3) := by decide +kernel
theorem dX3_pass_117 : decode cX3_pass 117 = .ok (.iconst 5, 1) := by decide +kernel
theorem dX3_pass_118 : decode cX3_pass 118 = .ok (.if_icmp .le 6, 3) := by decide +kernel
theorem dX3_pass_121 : decode cX3_pass 121 = .ok (.goto 22, 3) := by decide +kernel
theorem dX3_pass_124 : decode cX3_pass 124 = .ok (.aload_n 0, 1) := by decide +kernel
theorem dX3_pass_125 : decode cX3_pass 125 = .ok (.getfield 9, 3) := by decide +kernel
theorem dX3_pass_128 : decode cX3_pass 128 = .ok (.iload_n 2, 1) := by decide +kernel
theorem dX3_pass_129 : decode cX3_pass 129 = .ok (.aaload, 1) := by decide +kernel
theorem dX3_pass_130 : decode cX3_pass 130 = .ok (.iconst 3, 1) := by decide +kernel
theorem dX3_pass_131 : decode cX3_pass 131 = .ok (.iconst 0, 1) := by decide +kernel
theorem dX3_pass_132 : decode cX3_pass 132 = .ok (.iastore, 1) := by decide +kernel
theorem dX3_pass_133 : decode cX3_pass 133 = .ok (.aload_n 0, 1) := by decide +kernel
theorem dX3_pass_134 : decode cX3_pass 134 = .ok (.dup, 1) := by decide +kernel
theorem dX3_pass_135 : decode cX3_pass 135 = .ok (.getfield 36, 3) := by decide +kernel
theorem dX3_pass_138 : decode cX3_pass 138 = .ok (.iconst 1, 1) := by decide +kernel
theorem dX3_pass_139 : decode cX3_pass 139 = .ok (.iadd, 1) := by decide +kernel
theorem dX3_pass_140 : decode cX3_pass 140 = .ok (.putfield 36, 3) := by decide +kernel
theorem dX3_pass_143 : decode cX3_pass 143 = .ok (.iinc 2 1, 3) := by decide +kernel
theorem dX3_pass_146 : decode cX3_pass 146 = .ok (.goto (-54), 3) := by decide +kernel
theorem dX3_pass_149 : decode cX3_pass 149 = .ok (.aload_n 0, 1) := by decide +kernel
theorem dX3_pass_150 : decode cX3_pass 150 = .ok (.getfield 15, 3) := by decide +kernel
theorem dX3_pass_153 : decode cX3_pass 153 = .ok (.astore_n 2, 1) := by decide +kernel
theorem dX3_pass_154 : decode cX3_pass 154 = .ok (.aload_n 2, 1) := by decide +kernel
theorem dX3_pass_155 : decode cX3_pass 155 = .ok (.arraylength, 1) := by decide +kernel
theorem dX3_pass_156 : decode cX3_pass 156 = .ok (.istore_n 3, 1) := by decide +kernel
theorem dX3_pass_157 : decode cX3_pass 157 = .ok (.iconst 0, 1) := by decide +kernel
theorem dX3_pass_158 : decode cX3_pass 158 = .ok (.istore 4, 2) := by decide +kernel
theorem dX3_pass_160 : decode cX3_pass 160 = .ok (.iload 4, 2) := by decide +kernel
theorem dX3_pass_162 : decode cX3_pass 162 = .ok (.iload_n 3, 1) := by decide +kernel
theorem dX3_pass_163 : decode cX3_pass 163 = .ok (.if_icmp .ge 96, 3) := by decide +kernel
theorem dX3_pass_166 : decode cX3_pass 166 = .ok (.aload_n 2, 1) := by decide +kernel
theorem dX3_pass_167 : decode cX3_pass 167 = .ok (.iload 4, 2) := by decide +kernel
theorem dX3_pass_169 : decode cX3_pass 169 = .ok (.aaload, 1) := by decide +kernel
theorem dX3_pass_170 : decode cX3_pass 170 = .ok (.astore 5, 2) := by decide +kernel
theorem dX3_pass_172 : decode cX3_pass 172 = .ok (.aload_n 0, 1) := by decide +kernel
theorem dX3_pass_173 : decode cX3_pass 173 = .ok (.getfield 9, 3) := by decide +kernel
theorem dX3_pass_176 : decode cX3_pass 176 = .ok (.aload 5, 2) := by decide +kernel
theorem dX3_pass_178 : decode cX3_pass 178 = .ok (.iconst 0, 1) := by decide +kernel
theorem dX3_pass_179 : decode cX3_pass 179 = .ok (.iaload, 1) := by decide +kernel
theorem dX3_pass_180 : decode cX3_pass 180 = .ok (.aaload, 1) := by decide +kernel
theorem dX3_pass_181 : decode cX3_pass 181 = .ok (.astore 6, 2) := by decide +kernel
theorem dX3_pass_183 : decode cX3_pass 183 = .ok (.aload 6, 2) := by decide +kernel
theorem dX3_pass_185 : decode cX3_pass 185 = .ok (.iconst 1, 1) := by decide +kernel
theorem dX3_pass_186 : decode cX3_pass 186 = .ok (.iaload, 1) := by decide +kernel
theorem dX3_pass_187 : decode cX3_pass 187 = .ok (.iconst 1, 1) := by decide +kernel
theorem dX3_pass_188 : decode cX3_pass 188 = .ok (.if_icmp .ne 65, 3) := by decide +kernel
theorem dX3_pass_191 : decode cX3_pass 191 = .ok (.aload 6, 2) := by decide +kernel
theorem dX3_pass_193 : decode cX3_pass 193 = .ok (.iconst 3, 1) := by decide +kernel
theorem dX3_pass_194 : decode cX3_pass 194 = .ok (.iaload, 1) := by decide +kernel
theorem dX3_pass_195 : decode cX3_pass 195 = .ok (.iconst 1, 1) := by decide +kernel
theorem dX3_pass_196 : decode cX3_pass 196 = .ok (.if_icmp .ne 6, 3) := by decide +kernel
theorem dX3_pass_199 : decode cX3_pass 199 = .ok (.goto 54, 3) := by decide +kernel
theorem dX3_pass_202 : decode cX3_pass 202 = .ok (.aload 5, 2) := by decide +kernel
theorem dX3_pass_204 : decode cX3_pass 204 = .ok (.iconst 4, 1) := by decide +kernel
theorem dX3_pass_205 : decode cX3_pass 205 = .ok (.aload 5, 2) := by decide +kernel
theorem dX3_pass_207 : decode cX3_pass 207 = .ok (.iconst 4, 1) := by decide +kernel
theorem dX3_pass_208 : decode cX3_pass 208 = .ok (.iaload, 1) := by decide +kernel
theorem dX3_pass_209 : decode cX3_pass 209 = .ok (.aload 5, 2) := by decide +kernel
theorem dX3_pass_211 : decode cX3_pass 211 = .ok (.iconst 1, 1) := by decide +kernel
theorem dX3_pass_212 : decode cX3_pass 212 = .ok (.iaload, 1) := by decide +kernel
theorem dX3_pass_213 : decode cX3_pass 213 = .ok (.iconst 1, 1) := by decide +kernel
theorem dX3_pass_214 : decode cX3_pass 214 = .ok (.iadd, 1) := by decide +kernel
theorem dX3_pass_215 : decode cX3_pass 215 = .ok (.if_icmp .le 17, 3) := by decide +kernel
theorem dX3_pass_218 : decode cX3_pass 218 = .ok (.aload 5, 2) := by decide +kernel
theorem dX3_pass_220 : decode cX3_pass 220 = .ok (.iconst 4, 1) := by decide +kernel
theorem dX3_pass_221 : decode cX3_pass 221 = .ok (.iaload, 1) := by decide +kernel
theorem dX3_pass_222 : decode cX3_pass 222 = .ok (.aload 5, 2) := by decide +kernel
theorem dX3_pass_224 : decode cX3_pass 224 = .ok (.iconst 1, 1) := by decide +kernel
theorem dX3_pass_225 : decode cX3_pass 225 = .ok (.iaload, 1) := by decide +kernel
theorem dX3_pass_226 : decode cX3_pass 226 = .ok (.isub, 1) := by decide +kernel
theorem dX3_pass_227 : decode cX3_pass 227 = .ok (.iconst 1, 1) := by decide +kernel
theorem dX3_pass_228 : decode cX3_pass 228 = .ok (.isub, 1) := by decide +kernel
theorem dX3_pass_229 : decode cX3_pass 229 = .ok (.goto 4, 3) := by decide +kernel
theorem dX3_pass_232 : decode cX3_pass 232 = .ok (.iconst 0, 1) := by decide +kernel
theorem dX3_pass_233 : decode cX3_pass 233 = .ok (.iastore, 1) := by decide +kernel
theorem dX3_pass_234 : decode cX3_pass 234 = .ok (.aload 5, 2) := by decide +kernel
theorem dX3_pass_236 : decode cX3_pass 236 = .ok (.iconst 4, 1) := by decide +kernel
theorem dX3_pass_237 : decode cX3_pass 237 = .ok (.iaload, 1) := by decide +kernel
theorem dX3_pass_238 : decode cX3_pass 238 = .ok (.ifCond .ne 15, 3) := by decide +kernel
theorem dX3_pass_241 : decode cX3_pass 241 = .ok (.aload_n 0, 1) := by decide +kernel
theorem dX3_pass_242 : decode cX3_pass 242 = .ok (.aload 5, 2) := by decide +kernel
theorem dX3_pass_244 : decode cX3_pass 244 = .ok (.invokevirtual 59, 3) := by decide +kernel
theorem dX3_pass_247 : decode cX3_pass 247 = .ok (.ifCond .eq 6, 3) := by decide +kernel
theorem dX3_pass_250 : decode cX3_pass 250 = .ok (.iinc 1 1, 3) := by decide +kernel
theorem dX3_pass_253 : decode cX3_pass 253 = .ok (.iinc 4 1, 3) := by decide +kernel
theorem dX3_pass_256 : decode cX3_pass 256 = .ok (.goto (-96), 3) := by decide +kernel
theorem dX3_pass_259 : decode cX3_pass 259 = .ok (.iconst 0, 1) := by decide +kernel
theorem dX3_pass_260 : decode cX3_pass 260 = .ok (.istore_n 2, 1) := by decide +kernel
theorem dX3_pass_261 : decode cX3_pass 261 = .ok (.iload_n 2, 1) := by decide +kernel
theorem dX3_pass_262 : decode cX3_pass 262 = .ok (.aload_n 0, 1) := by decide +kernel
theorem dX3_pass_263 : decode cX3_pass 263 = .ok (.getfield 9, 3) := by decide +kernel
theorem dX3_pass_266 : decode cX3_pass 266 = .ok (.arraylength, 1) := by decide +kernel
theorem dX3_pass_267 : decode cX3_pass 267 = .ok (.if_icmp .ge 83, 3) := by decide +kernel
theorem dX3_pass_270 : decode cX3_pass 270 = .ok (.aload_n 0, 1) := by decide +kernel
theorem dX3_pass_271 : decode cX3_pass 271 = .ok (.getfield 9, 3) := by decide +kernel
theorem dX3_pass_274 : decode cX3_pass 274 = .ok (.iload_n 2, 1) := by decide +kernel
theorem dX3_pass_275 : decode cX3_pass 275 = .ok (.aaload, 1) := by decide +kernel
theorem dX3_pass_276 : decode cX3_pass 276 = .ok (.iconst 1, 1) := by decide +kernel
theorem dX3_pass_277 : decode cX3_pass 277 = .ok (.iaload, 1) := by decide +kernel
theorem dX3_pass_278 : decode cX3_pass 278 = .ok (.iconst 1, 1) := by decide +kernel
theorem dX3_pass_279 : decode cX3_pass 279 = .ok (.if_icmp .eq 6, 3) := by decide +kernel
theorem dX3_pass_282 : decode cX3_pass 282 = .ok (.goto 62, 3) := by decide +kernel
theorem dX3_pass_285 : decode cX3_pass 285 = .ok (.aload_n 0, 1) := by decide +kernel
theorem dX3_pass_286 : decode cX3_pass 286 = .ok (.getfield 9, 3) := by decide +kernel
theorem dX3_pass_289 : decode cX3_pass 289 = .ok (.iload_n 2, 1) := by decide +kernel
theorem dX3_pass_290 : decode cX3_pass 290 = .ok (.aaload, 1) := by decide +kernel
theorem dX3_pass_291 : decode cX3_pass 291 = .ok (.iconst 2, 1) := by decide +kernel
theorem dX3_pass_292 : decode cX3_pass 292 = .ok (.dup2, 1) := by decide +kernel
theorem dX3_pass_293 : decode cX3_pass 293 = .ok (.iaload, 1) := by decide +kernel
theorem dX3_pass_294 : decode cX3_pass 294 = .ok (.iconst 1, 1) := by decide +kernel
theorem dX3_pass_295 : decode cX3_pass 295 = .ok (.iadd, 1) := by decide +kernel
theorem dX3_pass_296 : decode cX3_pass 296 = .ok (.iastore, 1) := by decide +kernel
theorem dX3_pass_297 : decode cX3_pass 297 = .ok (.aload_n 0, 1) := by decide +kernel
theorem dX3_pass_298 : decode cX3_pass 298 = .ok (.getfield 9, 3) := by decide +kernel
theorem dX3_pass_301 : decode cX3_pass 301 = .ok (.iload_n 2, 1) := by decide +kernel
theorem dX3_pass_302 : decode cX3_pass 302 = .ok (.aaload, 1) := by decide +kernel
theorem dX3_pass_303 : decode cX3_pass 303 = .ok (.iconst 2, 1) := by decide +kernel
theorem dX3_pass_304 : decode cX3_pass 304 = .ok (.iaload, 1) := by decide +kernel
theorem dX3_pass_305 : decode cX3_pass 305 = .ok (.bipush 21, 2) := by decide +kernel
theorem dX3_pass_307 : decode cX3_pass 307 = .ok (.if_icmp .lt 37, 3) := by decide +kernel
theorem dX3_pass_310 : decode cX3_pass 310 = .ok (.aload_n 0, 1) := by decide +kernel
theorem dX3_pass_311 : decode cX3_pass 311 = .ok (.iload_n 2, 1) := by decide +kernel
theorem dX3_pass_312 : decode cX3_pass 312 = .ok (.iconst 1, 1) := by decide +kernel
theorem dX3_pass_313 : decode cX3_pass 313 = .ok (.invokevirtual 62, 3) := by decide +kernel
theorem dX3_pass_316 : decode cX3_pass 316 = .ok (.iconst 2, 1) := by decide +kernel
theorem dX3_pass_317 : decode cX3_pass 317 = .ok (.imul, 1) := by decide +kernel
theorem dX3_pass_318 : decode cX3_pass 318 = .ok (.aload_n 0, 1) := by decide +kernel
theorem dX3_pass_319 : decode cX3_pass 319 = .ok (.iload_n 2, 1) := by decide +kernel
theorem dX3_pass_320 : decode cX3_pass 320 = .ok (.iconst 0, 1) := by decide +kernel
theorem dX3_pass_321 : decode cX3_pass 321 = .ok (.invokevirtual 62, 3) := by decide +kernel
theorem dX3_pass_324 : decode cX3_pass 324 = .ok (.if_icmp .gt 6, 3) := by decide +kernel
theorem dX3_pass_327 : decode cX3_pass 327 = .ok (.goto 17, 3) := by decide +kernel
theorem dX3_pass_330 : decode cX3_pass 330 = .ok (.aload_n 0, 1) := by decide +kernel
theorem dX3_pass_331 : decode cX3_pass 331 = .ok (.getfield 9, 3) := by decide +kernel
theorem dX3_pass_334 : decode cX3_pass 334 = .ok (.iload_n 2, 1) := by decide +kernel
theorem dX3_pass_335 : decode cX3_pass 335 = .ok (.aaload, 1) := by decide +kernel
theorem dX3_pass_336 : decode cX3_pass 336 = .ok (.iconst 1, 1) := by decide +kernel
theorem dX3_pass_337 : decode cX3_pass 337 = .ok (.iconst 2, 1) := by decide +kernel
theorem dX3_pass_338 : decode cX3_pass 338 = .ok (.iastore, 1) := by decide +kernel
theorem dX3_pass_339 : decode cX3_pass 339 = .ok (.aload_n 0, 1) := by decide +kernel
theorem dX3_pass_340 : decode cX3_pass 340 = .ok (.iload_n 2, 1) := by decide +kernel
theorem dX3_pass_341 : decode cX3_pass 341 = .ok (.invokevirtual 66, 3) := by decide +kernel
theorem dX3_pass_344 : decode cX3_pass 344 = .ok (.iinc 2 1, 3) := by decide +kernel
theorem dX3_pass_347 : decode cX3_pass 347 = .ok (.goto (-86), 3) := by decide +kernel
theorem dX3_pass_350 : decode cX3_pass 350 = .ok (.aload_n 0, 1) := by decide +kernel
theorem dX3_pass_351 : decode cX3_pass 351 = .ok (.dup, 1) := by decide +kernel
theorem dX3_pass_352 : decode cX3_pass 352 = .ok (.getfield 29, 3) := by decide +kernel
theorem dX3_pass_355 : decode cX3_pass 355 = .ok (.iconst 1, 1) := by decide +kernel
theorem dX3_pass_356 : decode cX3_pass 356 = .ok (.iadd, 1) := by decide +kernel
theorem dX3_pass_357 : decode cX3_pass 357 = .ok (.putfield 29, 3) := by decide +kernel
theorem dX3_pass_360 : decode cX3_pass 360 = .ok (.iload_n 1, 1) := by decide +kernel
theorem dX3_pass_361 : decode cX3_pass 361 = .ok (.ireturn, 1) := by decide +kernel
set_option maxRecDepth 20000 in
theorem ggX3_isSame_X3_votes : GoodIn wsX3_isSame wsX3_votes := goodIn_r _ [12, 2, 222, 223, 224, 225, 226, 227, 228] (by decide +kernel) (by decide +kernel)
set_option maxRecDepth 20000 in
theorem gX3_isSame_X3_votes : GoodIn wsX3_isSame (wsV RX3 62 RX3 yX3_votes wsX3_votes) := goodIn_app (goodIn_of _ (by decide +kernel)) ggX3_isSame_X3_votes
set_option maxRecDepth 20000 in
theorem ggX3_isSame_X2_mastsOf : GoodIn wsX3_isSame wsX2_mastsOf := goodIn_ca (goodIn_r _ [17, 18, 19, 20, 21, 16, 22, 23, 24, 25, 26, 27, 229, 230, 231, 232, 233, 234, 235, 236, 237, 238, 239] (by decide +kernel) (by decide +kernel)) (goodIn_sub (fun _ h => List.mem_cons_of_mem _ (List.mem_append_right _ h)) (by decide +kernel))
set_option maxRecDepth 20000 in
theorem gX3_isSame_X2_mastsOf : GoodIn wsX3_isSame (wsV RX3 70 RX2 yX2_mastsOf wsX2_mastsOf) := goodIn_app (goodIn_of _ (by decide +kernel)) ggX3_isSame_X2_mastsOf
set_option maxRecDepth 20000 in
theorem ggX3_isSame_X2_isAway : GoodIn wsX3_isSame wsX2_isAway := goodIn_ca (goodIn_r _ [31, 32, 19, 20, 21, 16, 22, 23, 24, 18, 33, 34, 35, 36, 37, 38, 26, 27, 229, 230, 231, 232, 233, 234, 235, 236, 237, 238, 239, 240, 241, 242, 243, 244, 245, 246, 247, 248, 249] (by decide +kernel) (by decide +kernel)) (goodIn_sub (fun _ h => List.mem_cons_of_mem _ (List.mem_append_right _ h)) (by decide +kernel))
set_option maxRecDepth 20000 in
theorem gX3_isSame_X2_isAway : GoodIn wsX3_isSame (wsV RX3 75 RX2 yX2_isAway wsX2_isAway) := goodIn_app (goodIn_of _ (by decide +kernel)) ggX3_isSame_X2_isAway
set_option maxRecDepth 20000 in
theorem ggX3_isSame_X2_isLost : GoodIn wsX3_isSame wsX2_isLost := goodIn_ca (goodIn_r _ [42, 32, 19, 20, 21, 16, 22, 23, 24, 18, 33, 34, 35, 36, 37, 38, 26, 27, 229, 230, 231, 232, 233, 234, 235, 236, 237, 238, 239, 240, 241, 242, 243, 244, 245, 246, 247, 248, 249] (by decide +kernel) (by decide +kernel)) (goodIn_sub (fun _ h => List.mem_cons_of_mem _ (List.mem_append_right _ h)) (by decide +kernel))
set_option maxRecDepth 20000 in
theorem gX3_isSame_X2_isLost : GoodIn wsX3_isSame (wsV RX3 79 RX2 yX2_isLost wsX2_isLost) := goodIn_app (goodIn_of _ (by decide +kernel)) ggX3_isSame_X2_isLost
set_option maxRecDepth 20000 in
theorem ggX3_isSame_X2_nightsOut : GoodIn wsX3_isSame wsX2_nightsOut := goodIn_ca (goodIn_r _ [46, 32, 19, 20, 21, 16, 22, 23, 24, 18, 25, 26, 27, 229, 230, 231, 240, 241, 242, 243, 244, 245, 246, 247, 248, 249, 232, 233, 234, 235, 236, 237, 238, 239] (by decide +kernel) (by decide +kernel)) (goodIn_sub (fun _ h => List.mem_cons_of_mem _ (List.mem_append_right _ h)) (by decide +kernel))
set_option maxRecDepth 20000 in
theorem gX3_isSame_X2_nightsOut : GoodIn wsX3_isSame (wsV RX3 82 RX2 yX2_nightsOut wsX2_nightsOut) := goodIn_app (goodIn_of _ (by decide +kernel)) ggX3_isSame_X2_nightsOut
set_option maxRecDepth 20000 in
theorem ggX3_isSame_X2_isRung : GoodIn wsX3_isSame wsX2_isRung := goodIn_ca (goodIn_r _ [50, 32, 19, 20, 21, 16, 22, 23, 24, 18, 51, 52, 53, 229, 230, 231, 240, 241, 242, 243, 244, 245, 246, 247, 248, 249, 232, 233, 234, 235, 236, 237, 238, 239] (by decide +kernel) (by decide +kernel)) (goodIn_sub (fun _ h => List.mem_cons_of_mem _ (List.mem_append_right _ h)) (by decide +kernel))
set_option maxRecDepth 20000 in
theorem gX3_isSame_X2_isRung : GoodIn wsX3_isSame (wsV RX3 85 RX2 yX2_isRung wsX2_isRung) := goodIn_app (goodIn_of _ (by decide +kernel)) ggX3_isSame_X2_isRung
set_option maxRecDepth 20000 in
theorem ggX3_isSame_X2_trustIn : GoodIn wsX3_isSame wsX2_trustIn := goodIn_ca (goodIn_r _ [57, 32, 19, 20, 21, 16, 22, 23, 24, 18, 58, 59, 60, 36, 61, 62, 63, 64, 65, 66, 67, 68, 69, 70, 26, 27, 229, 230, 231, 232, 233, 234, 235, 236, 237, 238, 239, 240, 241, 242, 243, 244, 245, 246, 247, 248, 249] (by decide +kernel) (by decide +kernel)) (goodIn_sub (fun _ h => List.mem_cons_of_mem _ (List.mem_append_right _ h)) (by decide +kernel))
set_option maxRecDepth 20000 in
theorem gX3_isSame_X2_trustIn : GoodIn wsX3_isSame (wsV RX3 88 RX2 yX2_trustIn wsX2_trustIn) := goodIn_app (goodIn_of _ (by decide +kernel)) ggX3_isSame_X2_trustIn
set_option maxRecDepth 20000 in
theorem ggX3_isSame_X3_trustIn : GoodIn wsX3_isSame wsX3_trustIn := goodIn_r _ [74, 4, 3, 222, 223, 224, 225, 226, 227, 228] (by decide +kernel) (by decide +kernel)
set_option maxRecDepth 20000 in
theorem gX3_isSame_X3_trustIn : GoodIn wsX3_isSame (wsV RX3 55 RX3 yX3_trustIn wsX3_trustIn) := goodIn_app (goodIn_of _ (by decide +kernel)) ggX3_isSame_X3_trustIn
set_option maxRecDepth 20000 in
theorem ggX3_isSame_X2_voters : GoodIn wsX3_isSame wsX2_voters := goodIn_ca (goodIn_r _ [78, 18, 19, 20, 21, 16, 22, 23, 24, 79, 80, 81, 82, 83, 84, 85, 86, 87, 88, 89, 229, 230, 231, 232, 233, 234, 235, 236, 237, 238, 239] (by decide +kernel) (by decide +kernel)) (goodIn_sub (fun _ h => List.mem_cons_of_mem _ (List.mem_append_right _ h)) (by decide +kernel))
set_option maxRecDepth 20000 in
theorem gX3_isSame_X2_voters : GoodIn wsX3_isSame (wsV RX3 89 RX2 yX2_voters wsX2_voters) := goodIn_app (goodIn_of _ (by decide +kernel)) ggX3_isSame_X2_voters
set_option maxRecDepth 20000 in
theorem ggX3_isSame_X2_votesForLost : GoodIn wsX3_isSame wsX2_votesForLost := goodIn_ca (goodIn_r _ [93, 18, 19, 20, 21, 16, 22, 23, 24, 94, 95, 96, 82, 97, 98, 85, 86, 87, 88, 89, 229, 230, 231, 232, 233, 234, 235, 236, 237, 238, 239] (by decide +kernel) (by decide +kernel)) (goodIn_sub (fun _ h => List.mem_cons_of_mem _ (List.mem_append_right _ h)) (by decide +kernel))
set_option maxRecDepth 20000 in
theorem gX3_isSame_X2_votesForLost : GoodIn wsX3_isSame (wsV RX3 92 RX2 yX2_votesForLost wsX2_votesForLost) := goodIn_app (goodIn_of _ (by decide +kernel)) ggX3_isSame_X2_votesForLost
set_option maxRecDepth 20000 in
theorem ggX3_isSame_X2_votesMissing : GoodIn wsX3_isSame wsX2_votesMissing := goodIn_ca (goodIn_r _ [102, 18, 19, 20, 21, 16, 22, 23, 24, 103, 104, 105, 82, 106, 107, 108, 109, 110, 111, 80, 81, 83, 84, 85, 86, 87, 88, 89, 112, 95, 96, 97, 98, 229, 230, 231, 232, 233, 234, 235, 236, 237, 238, 239] (by decide +kernel) (by decide +kernel)) (goodIn_sub (fun _ h => List.mem_cons_of_mem _ (List.mem_append_right _ h)) (by decide +kernel))
set_option maxRecDepth 20000 in
theorem gX3_isSame_X2_votesMissing : GoodIn wsX3_isSame (wsV RX3 95 RX2 yX2_votesMissing wsX2_votesMissing) := goodIn_app (goodIn_of _ (by decide +kernel)) ggX3_isSame_X2_votesMissing
set_option maxRecDepth 20000 in
theorem ggX3_isSame_X2_shipOf : GoodIn wsX3_isSame wsX2_shipOf := goodIn_ca (goodIn_r _ [116, 18, 117, 118, 119, 16, 120, 23, 24, 121, 122, 123, 82, 124, 89, 229, 230, 231, 232, 233, 234, 235, 236, 237, 238, 239] (by decide +kernel) (by decide +kernel)) (goodIn_sub (fun _ h => List.mem_cons_of_mem _ (List.mem_append_right _ h)) (by decide +kernel))
set_option maxRecDepth 20000 in
theorem gX3_isSame_X2_shipOf : GoodIn wsX3_isSame (wsV RX3 98 RX2 yX2_shipOf wsX2_shipOf) := goodIn_app (goodIn_of _ (by decide +kernel)) ggX3_isSame_X2_shipOf
set_option maxRecDepth 20000 in
theorem ggX3_isSame_X2_mastOf : GoodIn wsX3_isSame wsX2_mastOf := goodIn_ca (goodIn_r _ [128, 18, 117, 118, 119, 16, 120, 23, 24, 25, 26, 27, 229, 230, 231, 232, 233, 234, 235, 236, 237, 238, 239] (by decide +kernel) (by decide +kernel)) (goodIn_sub (fun _ h => List.mem_cons_of_mem _ (List.mem_append_right _ h)) (by decide +kernel))
set_option maxRecDepth 20000 in
theorem gX3_isSame_X2_mastOf : GoodIn wsX3_isSame (wsV RX3 101 RX2 yX2_mastOf wsX2_mastOf) := goodIn_app (goodIn_of _ (by decide +kernel)) ggX3_isSame_X2_mastOf
set_option maxRecDepth 20000 in
theorem ggX3_isSame_X2_hasVoter : GoodIn wsX3_isSame wsX2_hasVoter := goodIn_ca (goodIn_r _ [132, 18, 117, 118, 119, 16, 120, 23, 24, 51, 52, 53, 229, 230, 231, 232, 233, 234, 235, 236, 237, 238, 239] (by decide +kernel) (by decide +kernel)) (goodIn_sub (fun _ h => List.mem_cons_of_mem _ (List.mem_append_right _ h)) (by decide +kernel))
set_option maxRecDepth 20000 in
theorem gX3_isSame_X2_hasVoter : GoodIn wsX3_isSame (wsV RX3 104 RX2 yX2_hasVoter wsX2_hasVoter) := goodIn_app (goodIn_of _ (by decide +kernel)) ggX3_isSame_X2_hasVoter
set_option maxRecDepth 20000 in
theorem ggX3_isSame_X2_isGivenUp : GoodIn wsX3_isSame wsX2_isGivenUp := goodIn_ca (goodIn_r _ [136, 18, 117, 118, 119, 16, 120, 23, 24, 51, 52, 53, 229, 230, 231, 232, 233, 234, 235, 236, 237, 238, 239] (by decide +kernel) (by decide +kernel)) (goodIn_sub (fun _ h => List.mem_cons_of_mem _ (List.mem_append_right _ h)) (by decide +kernel))
set_option maxRecDepth 20000 in
theorem gX3_isSame_X2_isGivenUp : GoodIn wsX3_isSame (wsV RX3 107 RX2 yX2_isGivenUp wsX2_isGivenUp) := goodIn_app (goodIn_of _ (by decide +kernel)) ggX3_isSame_X2_isGivenUp
set_option maxRecDepth 20000 in
theorem ggX3_isSame_X2_candleOf : GoodIn wsX3_isSame wsX2_candleOf := goodIn_ca (goodIn_r _ [140, 32, 117, 118, 119, 16, 120, 23, 24, 18, 25, 26, 27, 229, 230, 231, 240, 241, 242, 243, 244, 245, 246, 247, 248, 249, 232, 233, 234, 235, 236, 237, 238, 239] (by decide +kernel) (by decide +kernel)) (goodIn_sub (fun _ h => List.mem_cons_of_mem _ (List.mem_append_right _ h)) (by decide +kernel))
set_option maxRecDepth 20000 in
theorem gX3_isSame_X2_candleOf : GoodIn wsX3_isSame (wsV RX3 110 RX2 yX2_candleOf wsX2_candleOf) := goodIn_app (goodIn_of _ (by decide +kernel)) ggX3_isSame_X2_candleOf
set_option maxRecDepth 20000 in
theorem ggX3_isSame_X2_isDark : GoodIn wsX3_isSame wsX2_isDark := goodIn_ca (goodIn_r _ [144, 32, 117, 118, 119, 16, 120, 23, 24, 18, 145, 146, 147, 36, 148, 149, 150, 151, 122, 123, 82, 124, 89, 152, 34, 35, 37, 38, 26, 27, 229, 230, 231, 232, 233, 234, 235, 236, 237, 238, 239, 240, 241, 242, 243, 244, 245, 246, 247, 248, 249] (by decide +kernel) (by decide +kernel)) (goodIn_sub (fun _ h => List.mem_cons_of_mem _ (List.mem_append_right _ h)) (by decide +kernel))
set_option maxRecDepth 20000 in
theorem gX3_isSame_X2_isDark : GoodIn wsX3_isSame (wsV RX3 113 RX2 yX2_isDark wsX2_isDark) := goodIn_app (goodIn_of _ (by decide +kernel)) ggX3_isSame_X2_isDark
set_option maxRecDepth 20000 in
theorem ggX3_isSame_X3_isDark : GoodIn wsX3_isSame wsX3_isDark := goodIn_r _ [156, 1, 222, 223, 224, 225, 226, 227, 228] (by decide +kernel) (by decide +kernel)
set_option maxRecDepth 20000 in
theorem gX3_isSame_X3_isDark : GoodIn wsX3_isSame (wsV RX3 47 RX3 yX3_isDark wsX3_isDark) := goodIn_app (goodIn_of _ (by decide +kernel)) ggX3_isSame_X3_isDark
set_option maxRecDepth 20000 in
theorem ggX3_isSame_X2_trustOf : GoodIn wsX3_isSame wsX2_trustOf := goodIn_ca (goodIn_r _ [160, 32, 161, 162, 163, 16, 164, 23, 24, 18, 25, 26, 27, 229, 230, 231, 240, 241, 242, 243, 244, 245, 246, 247, 248, 249, 232, 233, 234, 235, 236, 237, 238, 239] (by decide +kernel) (by decide +kernel)) (goodIn_sub (fun _ h => List.mem_cons_of_mem _ (List.mem_append_right _ h)) (by decide +kernel))
set_option maxRecDepth 20000 in
theorem gX3_isSame_X2_trustOf : GoodIn wsX3_isSame (wsV RX3 115 RX2 yX2_trustOf wsX2_trustOf) := goodIn_app (goodIn_of _ (by decide +kernel)) ggX3_isSame_X2_trustOf
set_option maxRecDepth 20000 in
theorem ggX3_isSame_X2_ships : GoodIn wsX3_isSame wsX2_ships := goodIn_r _ [168, 18, 229, 230, 231, 232, 233, 234, 235, 236, 237, 238, 239] (by decide +kernel) (by decide +kernel)
set_option maxRecDepth 20000 in
theorem gX3_isSame_X2_ships : GoodIn wsX3_isSame (wsV RX3 118 RX2 yX2_ships wsX2_ships) := goodIn_app (goodIn_of _ (by decide +kernel)) ggX3_isSame_X2_ships
set_option maxRecDepth 20000 in
theorem ggX3_isSame_X2_sailors : GoodIn wsX3_isSame wsX2_sailors := goodIn_r _ [172, 18, 229, 230, 231, 232, 233, 234, 235, 236, 237, 238, 239] (by decide +kernel) (by decide +kernel)
set_option maxRecDepth 20000 in
theorem gX3_isSame_X2_sailors : GoodIn wsX3_isSame (wsV RX3 121 RX2 yX2_sailors wsX2_sailors) := goodIn_app (goodIn_of _ (by decide +kernel)) ggX3_isSame_X2_sailors
set_option maxRecDepth 20000 in
theorem ggX3_isSame_X2_watchers : GoodIn wsX3_isSame wsX2_watchers := goodIn_r _ [176, 18, 229, 230, 231, 232, 233, 234, 235, 236, 237, 238, 239] (by decide +kernel) (by decide +kernel)
set_option maxRecDepth 20000 in
theorem gX3_isSame_X2_watchers : GoodIn wsX3_isSame (wsV RX3 123 RX2 yX2_watchers wsX2_watchers) := goodIn_app (goodIn_of _ (by decide +kernel)) ggX3_isSame_X2_watchers
set_option maxRecDepth 20000 in
theorem ggX3_isSame_X2_sightings : GoodIn wsX3_isSame wsX2_sightings := goodIn_r _ [180, 32, 181, 182, 183, 36, 184, 67, 229, 230, 231, 240, 241, 242, 243, 244, 245, 246, 247, 248, 249] (by decide +kernel) (by decide +kernel)
set_option maxRecDepth 20000 in
theorem gX3_isSame_X2_sightings : GoodIn wsX3_isSame (wsV RX3 126 RX2 yX2_sightings wsX2_sightings) := goodIn_app (goodIn_of _ (by decide +kernel)) ggX3_isSame_X2_sightings
set_option maxRecDepth 20000 in
theorem ggX3_isSame_X2_night : GoodIn wsX3_isSame wsX2_night := goodIn_r _ [188, 32, 229, 230, 231, 240, 241, 242, 243, 244, 245, 246, 247, 248, 249] (by decide +kernel) (by decide +kernel)
set_option maxRecDepth 20000 in
theorem gX3_isSame_X2_night : GoodIn wsX3_isSame (wsV RX3 129 RX2 yX2_night wsX2_night) := goodIn_app (goodIn_of _ (by decide +kernel)) ggX3_isSame_X2_night
set_option maxRecDepth 20000 in
theorem ggX3_isSame_X2_wax : GoodIn wsX3_isSame wsX2_wax := goodIn_r _ [192, 32, 229, 230, 231, 240, 241, 242, 243, 244, 245, 246, 247, 248, 249] (by decide +kernel) (by decide +kernel)
set_option maxRecDepth 20000 in
theorem gX3_isSame_X2_wax : GoodIn wsX3_isSame (wsV RX3 131 RX2 yX2_wax wsX2_wax) := goodIn_app (goodIn_of _ (by decide +kernel)) ggX3_isSame_X2_wax
set_option maxRecDepth 20000 in
theorem ggX3_isSame_X2_darkCandles : GoodIn wsX3_isSame wsX2_darkCandles := goodIn_r _ [196, 32, 197, 198, 199, 36, 200, 201, 146, 147, 148, 149, 150, 151, 122, 123, 82, 124, 89, 152, 34, 35, 37, 38, 26, 16, 27, 229, 230, 231, 240, 241, 242, 243, 244, 245, 246, 247, 248, 249, 232, 233, 234, 235, 236, 237, 238, 239] (by decide +kernel) (by decide +kernel)
set_option maxRecDepth 20000 in
theorem gX3_isSame_X2_darkCandles : GoodIn wsX3_isSame (wsV RX3 133 RX2 yX2_darkCandles wsX2_darkCandles) := goodIn_app (goodIn_of _ (by decide +kernel)) ggX3_isSame_X2_darkCandles
set_option maxRecDepth 20000 in
theorem ggX3_isSame_X3_dark : GoodIn wsX3_isSame wsX3_dark := goodIn_r _ [205, 2, 153, 154, 155, 11, 156, 1, 222, 223, 224, 225, 226, 227, 228] (by decide +kernel) (by decide +kernel)
set_option maxRecDepth 20000 in
theorem gX3_isSame_X3_dark : GoodIn wsX3_isSame (wsV RX3 136 RX3 yX3_dark wsX3_dark) := goodIn_app (goodIn_of _ (by decide +kernel)) ggX3_isSame_X3_dark
set_option maxRecDepth 20000 in
theorem ggX3_isSame_X2_bellsUnrung : GoodIn wsX3_isSame wsX2_bellsUnrung := goodIn_r _ [209, 32, 229, 230, 231, 240, 241, 242, 243, 244, 245, 246, 247, 248, 249] (by decide +kernel) (by decide +kernel)
set_option maxRecDepth 20000 in
theorem gX3_isSame_X2_bellsUnrung : GoodIn wsX3_isSame (wsV RX3 139 RX2 yX2_bellsUnrung wsX2_bellsUnrung) := goodIn_app (goodIn_of _ (by decide +kernel)) ggX3_isSame_X2_bellsUnrung
set_option maxRecDepth 20000 in
theorem ggX3_isSame_X2_namesOnWall : GoodIn wsX3_isSame wsX2_namesOnWall := goodIn_r _ [213, 32, 214, 215, 216, 36, 217, 149, 151, 122, 123, 82, 124, 89, 152, 34, 35, 37, 38, 26, 16, 27, 229, 230, 231, 240, 241, 242, 243, 244, 245, 246, 247, 248, 249, 232, 233, 234, 235, 236, 237, 238, 239] (by decide +kernel) (by decide +kernel)
set_option maxRecDepth 20000 in
theorem gX3_isSame_X2_namesOnWall : GoodIn wsX3_isSame (wsV RX3 142 RX2 yX2_namesOnWall wsX2_namesOnWall) := goodIn_app (goodIn_of _ (by decide +kernel)) ggX3_isSame_X2_namesOnWall
set_option maxRecDepth 20000 in
theorem ggX3_isSame_X2_meanTrust : GoodIn wsX3_isSame wsX2_meanTrust := goodIn_r _ [221, 18, 32, 25, 26, 16, 27, 229, 230, 231, 232, 233, 234, 235, 236, 237, 238, 239, 240, 241, 242, 243, 244, 245, 246, 247, 248, 249] (by decide +kernel) (by decide +kernel)
set_option maxRecDepth 20000 in
theorem gX3_isSame_X2_meanTrust : GoodIn wsX3_isSame (wsV RX3 145 RX2 yX2_meanTrust wsX2_meanTrust) := goodIn_app (goodIn_of _ (by decide +kernel)) ggX3_isSame_X2_meanTrust
theorem dX3_isSame_0 : decode cX3_isSame 0 = .ok (.iconst 0, 1) := by decide +kernel
theorem dX3_isSame_1 : decode cX3_isSame 1 = .ok (.istore_n 2, 1) := by decide +kernel
theorem dX3_isSame_2 : decode cX3_isSame 2 = .ok (.iconst 0, 1) := by decide +kernel
theorem dX3_isSame_3 : decode cX3_isSame 3 = .ok (.istore_n 3, 1) := by decide +kernel
theorem dX3_isSame_4 : decode cX3_isSame 4 = .ok (.iload_n 3, 1) := by decide +kernel
theorem dX3_isSame_5 : decode cX3_isSame 5 = .ok (.aload_n 0, 1) := by decide +kernel
theorem dX3_isSame_6 : decode cX3_isSame 6 = .ok (.getfield 9, 3) := by decide +kernel
theorem dX3_isSame_9 : decode cX3_isSame 9 = .ok (.arraylength, 1) := by decide +kernel
theorem dX3_isSame_10 : decode cX3_isSame 10 = .ok (.if_icmp .ge 185, 3) := by decide +kernel
theorem dX3_isSame_13 : decode cX3_isSame 13 = .ok (.aload_n 0, 1) := by decide +kernel
theorem dX3_isSame_14 : decode cX3_isSame 14 = .ok (.getfield 9, 3) := by decide +kernel
theorem dX3_isSame_17 : decode cX3_isSame 17 = .ok (.iload_n 3, 1) := by decide +kernel
theorem dX3_isSame_18 : decode cX3_isSame 18 = .ok (.aaload, 1) := by decide +kernel
theorem dX3_isSame_19 : decode cX3_isSame 19 = .ok (.astore 4, 2) := by decide +kernel
theorem dX3_isSame_21 : decode cX3_isSame 21 = .ok (.aload_n 0, 1) := by decide +kernel
theorem dX3_isSame_22 : decode cX3_isSame 22 = .ok (.iload_n 3, 1) := by decide +kernel
theorem dX3_isSame_23 : decode cX3_isSame 23 = .ok (.iconst 0, 1) := by decide +kernel
theorem dX3_isSame_24 : decode cX3_isSame 24 = .ok (.invokevirtual 62, 3) := by decide +kernel
theorem dX3_isSame_27 : decode cX3_isSame 27 = .ok (.istore 5, 2) := by decide +kernel
theorem dX3_isSame_29 : decode cX3_isSame 29 = .ok (.aload_n 0, 1) := by decide +kernel
theorem dX3_isSame_30 : decode cX3_isSame 30 = .ok (.iload_n 3, 1) := by decide +kernel
theorem dX3_isSame_31 : decode cX3_isSame 31 = .ok (.iconst 1, 1) := by decide +kernel
theorem dX3_isSame_32 : decode cX3_isSame 32 = .ok (.invokevirtual 62, 3) := by decide +kernel
theorem dX3_isSame_35 : decode cX3_isSame 35 = .ok (.istore 6, 2) := by decide +kernel
theorem dX3_isSame_37 : decode cX3_isSame 37 = .ok (.iconst 0, 1) := by decide +kernel
theorem dX3_isSame_38 : decode cX3_isSame 38 = .ok (.istore 7, 2) := by decide +kernel
theorem dX3_isSame_40 : decode cX3_isSame 40 = .ok (.iconst 2, 1) := by decide +kernel
theorem dX3_isSame_41 : decode cX3_isSame 41 = .ok (.iload 6, 2) := by decide +kernel
theorem dX3_isSame_43 : decode cX3_isSame 43 = .ok (.iload 7, 2) := by decide +kernel
theorem dX3_isSame_45 : decode cX3_isSame 45 = .ok (.iadd, 1) := by decide +kernel
theorem dX3_isSame_46 : decode cX3_isSame 46 = .ok (.imul, 1) := by decide +kernel
theorem dX3_isSame_47 : decode cX3_isSame 47 = .ok (.iload 5, 2) := by decide +kernel
theorem dX3_isSame_49 : decode cX3_isSame 49 = .ok (.if_icmp .gt 9, 3) := by decide +kernel
theorem dX3_isSame_52 : decode cX3_isSame 52 = .ok (.iinc 7 1, 3) := by decide +kernel
theorem dX3_isSame_55 : decode cX3_isSame 55 = .ok (.goto (-15), 3) := by decide +kernel
theorem dX3_isSame_58 : decode cX3_isSame 58 = .ok (.aload_n 1, 1) := by decide +kernel
theorem dX3_isSame_59 : decode cX3_isSame 59 = .ok (.iload_n 3, 1) := by decide +kernel
theorem dX3_isSame_60 : decode cX3_isSame 60 = .ok (.invokevirtual 70, 3) := by decide +kernel
theorem dX3_isSame_63 : decode cX3_isSame 63 = .ok (.aload 4, 2) := by decide +kernel
theorem dX3_isSame_65 : decode cX3_isSame 65 = .ok (.iconst 0, 1) := by decide +kernel
theorem dX3_isSame_66 : decode cX3_isSame 66 = .ok (.iaload, 1) := by decide +kernel
theorem dX3_isSame_67 : decode cX3_isSame 67 = .ok (.if_icmp .ne 120, 3) := by decide +kernel
theorem dX3_isSame_70 : decode cX3_isSame 70 = .ok (.aload_n 1, 1) := by decide +kernel
theorem dX3_isSame_71 : decode cX3_isSame 71 = .ok (.iload_n 3, 1) := by decide +kernel
theorem dX3_isSame_72 : decode cX3_isSame 72 = .ok (.invokevirtual 75, 3) := by decide +kernel
theorem dX3_isSame_75 : decode cX3_isSame 75 = .ok (.aload 4, 2) := by decide +kernel
theorem dX3_isSame_77 : decode cX3_isSame 77 = .ok (.iconst 1, 1) := by decide +kernel
theorem dX3_isSame_78 : decode cX3_isSame 78 = .ok (.iaload, 1) := by decide +kernel
theorem dX3_isSame_79 : decode cX3_isSame 79 = .ok (.ifCond .le 7, 3) := by decide +kernel
theorem dX3_isSame_82 : decode cX3_isSame 82 = .ok (.iconst 1, 1) := by decide +kernel
theorem dX3_isSame_83 : decode cX3_isSame 83 = .ok (.goto 4, 3) := by decide +kernel
theorem dX3_isSame_86 : decode cX3_isSame 86 = .ok (.iconst 0, 1) := by decide +kernel
theorem dX3_isSame_87 : decode cX3_isSame 87 = .ok (.if_icmp .ne 100, 3) := by decide +kernel
theorem dX3_isSame_90 : decode cX3_isSame 90 = .ok (.aload_n 1, 1) := by decide +kernel
theorem dX3_isSame_91 : decode cX3_isSame 91 = .ok (.iload_n 3, 1) := by decide +kernel
theorem dX3_isSame_92 : decode cX3_isSame 92 = .ok (.invokevirtual 79, 3) := by decide +kernel
theorem dX3_isSame_95 : decode cX3_isSame 95 = .ok (.aload 4, 2) := by decide +kernel
theorem dX3_isSame_97 : decode cX3_isSame 97 = .ok (.iconst 1, 1) := by decide +kernel
theorem dX3_isSame_98 : decode cX3_isSame 98 = .ok (.iaload, 1) := by decide +kernel
theorem dX3_isSame_99 : decode cX3_isSame 99 = .ok (.iconst 2, 1) := by decide +kernel
theorem dX3_isSame_100 : decode cX3_isSame 100 = .ok (.if_icmp .ne 7, 3) := by decide +kernel
theorem dX3_isSame_103 : decode cX3_isSame 103 = .ok (.iconst 1, 1) := by decide +kernel
theorem dX3_isSame_104 : decode cX3_isSame 104 = .ok (.goto 4, 3) := by decide +kernel
theorem dX3_isSame_107 : decode cX3_isSame 107 = .ok (.iconst 0, 1) := by decide +kernel
theorem dX3_isSame_108 : decode cX3_isSame 108 = .ok (.if_icmp .ne 79, 3) := by decide +kernel
theorem dX3_isSame_111 : decode cX3_isSame 111 = .ok (.aload_n 1, 1) := by decide +kernel
theorem dX3_isSame_112 : decode cX3_isSame 112 = .ok (.iload_n 3, 1) := by decide +kernel
theorem dX3_isSame_113 : decode cX3_isSame 113 = .ok (.invokevirtual 82, 3) := by decide +kernel
theorem dX3_isSame_116 : decode cX3_isSame 116 = .ok (.aload 4, 2) := by decide +kernel
theorem dX3_isSame_118 : decode cX3_isSame 118 = .ok (.iconst 2, 1) := by decide +kernel
theorem dX3_isSame_119 : decode cX3_isSame 119 = .ok (.iaload, 1) := by decide +kernel
theorem dX3_isSame_120 : decode cX3_isSame 120 = .ok (.if_icmp .ne 67, 3) := by decide +kernel
theorem dX3_isSame_123 : decode cX3_isSame 123 = .ok (.aload_n 1, 1) := by decide +kernel
theorem dX3_isSame_124 : decode cX3_isSame 124 = .ok (.iload_n 3, 1) := by decide +kernel
theorem dX3_isSame_125 : decode cX3_isSame 125 = .ok (.invokevirtual 85, 3) := by decide +kernel
theorem dX3_isSame_128 : decode cX3_isSame 128 = .ok (.aload 4, 2) := by decide +kernel
theorem dX3_isSame_130 : decode cX3_isSame 130 = .ok (.iconst 3, 1) := by decide +kernel
theorem dX3_isSame_131 : decode cX3_isSame 131 = .ok (.iaload, 1) := by decide +kernel
theorem dX3_isSame_132 : decode cX3_isSame 132 = .ok (.iconst 1, 1) := by decide +kernel
theorem dX3_isSame_133 : decode cX3_isSame 133 = .ok (.if_icmp .ne 7, 3) := by decide +kernel
theorem dX3_isSame_136 : decode cX3_isSame 136 = .ok (.iconst 1, 1) := by decide +kernel
theorem dX3_isSame_137 : decode cX3_isSame 137 = .ok (.goto 4, 3) := by decide +kernel
theorem dX3_isSame_140 : decode cX3_isSame 140 = .ok (.iconst 0, 1) := by decide +kernel
theorem dX3_isSame_141 : decode cX3_isSame 141 = .ok (.if_icmp .ne 46, 3) := by decide +kernel
theorem dX3_isSame_144 : decode cX3_isSame 144 = .ok (.aload_n 1, 1) := by decide +kernel
theorem dX3_isSame_145 : decode cX3_isSame 145 = .ok (.iload_n 3, 1) := by decide +kernel
theorem dX3_isSame_146 : decode cX3_isSame 146 = .ok (.invokevirtual 88, 3) := by decide +kernel
theorem dX3_isSame_149 : decode cX3_isSame 149 = .ok (.aload_n 0, 1) := by decide +kernel
theorem dX3_isSame_150 : decode cX3_isSame 150 = .ok (.iload_n 3, 1) := by decide +kernel
theorem dX3_isSame_151 : decode cX3_isSame 151 = .ok (.invokevirtual 55, 3) := by decide +kernel
theorem dX3_isSame_154 : decode cX3_isSame 154 = .ok (.if_icmp .ne 33, 3) := by decide +kernel
theorem dX3_isSame_157 : decode cX3_isSame 157 = .ok (.aload_n 1, 1) := by decide +kernel
theorem dX3_isSame_158 : decode cX3_isSame 158 = .ok (.iload_n 3, 1) := by decide +kernel
theorem dX3_isSame_159 : decode cX3_isSame 159 = .ok (.invokevirtual 89, 3) := by decide +kernel
theorem dX3_isSame_162 : decode cX3_isSame 162 = .ok (.iload 5, 2) := by decide +kernel
theorem dX3_isSame_164 : decode cX3_isSame 164 = .ok (.if_icmp .ne 23, 3) := by decide +kernel
theorem dX3_isSame_167 : decode cX3_isSame 167 = .ok (.aload_n 1, 1) := by decide +kernel
theorem dX3_isSame_168 : decode cX3_isSame 168 = .ok (.iload_n 3, 1) := by decide +kernel
theorem dX3_isSame_169 : decode cX3_isSame 169 = .ok (.invokevirtual 92, 3) := by decide +kernel
theorem dX3_isSame_172 : decode cX3_isSame 172 = .ok (.iload 6, 2) := by decide +kernel
theorem dX3_isSame_174 : decode cX3_isSame 174 = .ok (.if_icmp .ne 13, 3) := by decide +kernel
theorem dX3_isSame_177 : decode cX3_isSame 177 = .ok (.aload_n 1, 1) := by decide +kernel
theorem dX3_isSame_178 : decode cX3_isSame 178 = .ok (.iload_n 3, 1) := by decide +kernel
theorem dX3_isSame_179 : decode cX3_isSame 179 = .ok (.invokevirtual 95, 3) := by decide +kernel
theorem dX3_isSame_182 : decode cX3_isSame 182 = .ok (.iload 7, 2) := by decide +kernel
theorem dX3_isSame_184 : decode cX3_isSame 184 = .ok (.if_icmp .eq 5, 3) := by decide +kernel
theorem dX3_isSame_187 : decode cX3_isSame 187 = .ok (.iconst 0, 1) := by decide +kernel
theorem dX3_isSame_188 : decode cX3_isSame 188 = .ok (.ireturn, 1) := by decide +kernel
theorem dX3_isSame_189 : decode cX3_isSame 189 = .ok (.iinc 3 1, 3) := by decide +kernel
theorem dX3_isSame_192 : decode cX3_isSame 192 = .ok (.goto (-188), 3) := by decide +kernel
theorem dX3_isSame_195 : decode cX3_isSame 195 = .ok (.iconst 0, 1) := by decide +kernel
theorem dX3_isSame_196 : decode cX3_isSame 196 = .ok (.istore_n 3, 1) := by decide +kernel
theorem dX3_isSame_197 : decode cX3_isSame 197 = .ok (.iload_n 3, 1) := by decide +kernel
theorem dX3_isSame_198 : decode cX3_isSame 198 = .ok (.aload_n 0, 1) := by decide +kernel
theorem dX3_isSame_199 : decode cX3_isSame 199 = .ok (.getfield 15, 3) := by decide +kernel
theorem dX3_isSame_202 : decode cX3_isSame 202 = .ok (.arraylength, 1) := by decide +kernel
theorem dX3_isSame_203 : decode cX3_isSame 203 = .ok (.if_icmp .ge 134, 3) := by decide +kernel
theorem dX3_isSame_206 : decode cX3_isSame 206 = .ok (.aload_n 0, 1) := by decide +kernel
theorem dX3_isSame_207 : decode cX3_isSame 207 = .ok (.getfield 15, 3) := by decide +kernel
theorem dX3_isSame_210 : decode cX3_isSame 210 = .ok (.iload_n 3, 1) := by decide +kernel
theorem dX3_isSame_211 : decode cX3_isSame 211 = .ok (.aaload, 1) := by decide +kernel
theorem dX3_isSame_212 : decode cX3_isSame 212 = .ok (.astore 4, 2) := by decide +kernel
theorem dX3_isSame_214 : decode cX3_isSame 214 = .ok (.iload_n 2, 1) := by decide +kernel
theorem dX3_isSame_215 : decode cX3_isSame 215 = .ok (.aload_n 0, 1) := by decide +kernel
theorem dX3_isSame_216 : decode cX3_isSame 216 = .ok (.getfield 9, 3) := by decide +kernel
theorem dX3_isSame_219 : decode cX3_isSame 219 = .ok (.aload 4, 2) := by decide +kernel
theorem dX3_isSame_221 : decode cX3_isSame 221 = .ok (.iconst 0, 1) := by decide +kernel
theorem dX3_isSame_222 : decode cX3_isSame 222 = .ok (.iaload, 1) := by decide +kernel
theorem dX3_isSame_223 : decode cX3_isSame 223 = .ok (.aaload, 1) := by decide +kernel
theorem dX3_isSame_224 : decode cX3_isSame 224 = .ok (.iconst 1, 1) := by decide +kernel
theorem dX3_isSame_225 : decode cX3_isSame 225 = .ok (.iaload, 1) := by decide +kernel
theorem dX3_isSame_226 : decode cX3_isSame 226 = .ok (.iconst 2, 1) := by decide +kernel
theorem dX3_isSame_227 : decode cX3_isSame 227 = .ok (.if_icmp .ne 7, 3) := by decide +kernel
theorem dX3_isSame_230 : decode cX3_isSame 230 = .ok (.iconst 1, 1) := by decide +kernel
theorem dX3_isSame_231 : decode cX3_isSame 231 = .ok (.goto 4, 3) := by decide +kernel
theorem dX3_isSame_234 : decode cX3_isSame 234 = .ok (.iconst 0, 1) := by decide +kernel
theorem dX3_isSame_235 : decode cX3_isSame 235 = .ok (.iadd, 1) := by decide +kernel
theorem dX3_isSame_236 : decode cX3_isSame 236 = .ok (.istore_n 2, 1) := by decide +kernel
theorem dX3_isSame_237 : decode cX3_isSame 237 = .ok (.aload_n 1, 1) := by decide +kernel
theorem dX3_isSame_238 : decode cX3_isSame 238 = .ok (.iload_n 3, 1) := by decide +kernel
theorem dX3_isSame_239 : decode cX3_isSame 239 = .ok (.invokevirtual 98, 3) := by decide +kernel
theorem dX3_isSame_242 : decode cX3_isSame 242 = .ok (.aload 4, 2) := by decide +kernel
theorem dX3_isSame_244 : decode cX3_isSame 244 = .ok (.iconst 0, 1) := by decide +kernel
theorem dX3_isSame_245 : decode cX3_isSame 245 = .ok (.iaload, 1) := by decide +kernel
theorem dX3_isSame_246 : decode cX3_isSame 246 = .ok (.if_icmp .ne 83, 3) := by decide +kernel
theorem dX3_isSame_249 : decode cX3_isSame 249 = .ok (.aload_n 1, 1) := by decide +kernel
theorem dX3_isSame_250 : decode cX3_isSame 250 = .ok (.iload_n 3, 1) := by decide +kernel
theorem dX3_isSame_251 : decode cX3_isSame 251 = .ok (.invokevirtual 101, 3) := by decide +kernel
theorem dX3_isSame_254 : decode cX3_isSame 254 = .ok (.aload 4, 2) := by decide +kernel
theorem dX3_isSame_256 : decode cX3_isSame 256 = .ok (.iconst 1, 1) := by decide +kernel
theorem dX3_isSame_257 : decode cX3_isSame 257 = .ok (.iaload, 1) := by decide +kernel
theorem dX3_isSame_258 : decode cX3_isSame 258 = .ok (.if_icmp .ne 71, 3) := by decide +kernel
theorem dX3_isSame_261 : decode cX3_isSame 261 = .ok (.aload_n 1, 1) := by decide +kernel
theorem dX3_isSame_262 : decode cX3_isSame 262 = .ok (.iload_n 3, 1) := by decide +kernel
theorem dX3_isSame_263 : decode cX3_isSame 263 = .ok (.invokevirtual 104, 3) := by decide +kernel
theorem dX3_isSame_266 : decode cX3_isSame 266 = .ok (.aload 4, 2) := by decide +kernel
theorem dX3_isSame_268 : decode cX3_isSame 268 = .ok (.iconst 2, 1) := by decide +kernel
theorem dX3_isSame_269 : decode cX3_isSame 269 = .ok (.iaload, 1) := by decide +kernel
theorem dX3_isSame_270 : decode cX3_isSame 270 = .ok (.iconst 1, 1) := by decide +kernel
theorem dX3_isSame_271 : decode cX3_isSame 271 = .ok (.if_icmp .ne 7, 3) := by decide +kernel
theorem dX3_isSame_274 : decode cX3_isSame 274 = .ok (.iconst 1, 1) := by decide +kernel
theorem dX3_isSame_275 : decode cX3_isSame 275 = .ok (.goto 4, 3) := by decide +kernel
theorem dX3_isSame_278 : decode cX3_isSame 278 = .ok (.iconst 0, 1) := by decide +kernel
theorem dX3_isSame_279 : decode cX3_isSame 279 = .ok (.if_icmp .ne 50, 3) := by decide +kernel
theorem dX3_isSame_282 : decode cX3_isSame 282 = .ok (.aload_n 1, 1) := by decide +kernel
theorem dX3_isSame_283 : decode cX3_isSame 283 = .ok (.iload_n 3, 1) := by decide +kernel
theorem dX3_isSame_284 : decode cX3_isSame 284 = .ok (.invokevirtual 107, 3) := by decide +kernel
theorem dX3_isSame_287 : decode cX3_isSame 287 = .ok (.aload 4, 2) := by decide +kernel
theorem dX3_isSame_289 : decode cX3_isSame 289 = .ok (.iconst 3, 1) := by decide +kernel
theorem dX3_isSame_290 : decode cX3_isSame 290 = .ok (.iaload, 1) := by decide +kernel
theorem dX3_isSame_291 : decode cX3_isSame 291 = .ok (.iconst 1, 1) := by decide +kernel
theorem dX3_isSame_292 : decode cX3_isSame 292 = .ok (.if_icmp .ne 7, 3) := by decide +kernel
theorem dX3_isSame_295 : decode cX3_isSame 295 = .ok (.iconst 1, 1) := by decide +kernel
theorem dX3_isSame_296 : decode cX3_isSame 296 = .ok (.goto 4, 3) := by decide +kernel
theorem dX3_isSame_299 : decode cX3_isSame 299 = .ok (.iconst 0, 1) := by decide +kernel
theorem dX3_isSame_300 : decode cX3_isSame 300 = .ok (.if_icmp .ne 29, 3) := by decide +kernel
theorem dX3_isSame_303 : decode cX3_isSame 303 = .ok (.aload_n 1, 1) := by decide +kernel
theorem dX3_isSame_304 : decode cX3_isSame 304 = .ok (.iload_n 3, 1) := by decide +kernel
theorem dX3_isSame_305 : decode cX3_isSame 305 = .ok (.invokevirtual 110, 3) := by decide +kernel
theorem dX3_isSame_308 : decode cX3_isSame 308 = .ok (.aload 4, 2) := by decide +kernel
theorem dX3_isSame_310 : decode cX3_isSame 310 = .ok (.iconst 4, 1) := by decide +kernel
theorem dX3_isSame_311 : decode cX3_isSame 311 = .ok (.iaload, 1) := by decide +kernel
theorem dX3_isSame_312 : decode cX3_isSame 312 = .ok (.if_icmp .ne 17, 3) := by decide +kernel
theorem dX3_isSame_315 : decode cX3_isSame 315 = .ok (.aload_n 1, 1) := by decide +kernel
theorem dX3_isSame_316 : decode cX3_isSame 316 = .ok (.iload_n 3, 1) := by decide +kernel
theorem dX3_isSame_317 : decode cX3_isSame 317 = .ok (.invokevirtual 113, 3) := by decide +kernel
theorem dX3_isSame_320 : decode cX3_isSame 320 = .ok (.aload_n 0, 1) := by decide +kernel
theorem dX3_isSame_321 : decode cX3_isSame 321 = .ok (.aload 4, 2) := by decide +kernel
theorem dX3_isSame_323 : decode cX3_isSame 323 = .ok (.invokevirtual 47, 3) := by decide +kernel
theorem dX3_isSame_326 : decode cX3_isSame 326 = .ok (.if_icmp .eq 5, 3) := by decide +kernel
theorem dX3_isSame_329 : decode cX3_isSame 329 = .ok (.iconst 0, 1) := by decide +kernel
theorem dX3_isSame_330 : decode cX3_isSame 330 = .ok (.ireturn, 1) := by decide +kernel
theorem dX3_isSame_331 : decode cX3_isSame 331 = .ok (.iinc 3 1, 3) := by decide +kernel
theorem dX3_isSame_334 : decode cX3_isSame 334 = .ok (.goto (-137), 3) := by decide +kernel
theorem dX3_isSame_337 : decode cX3_isSame 337 = .ok (.iconst 0, 1) := by decide +kernel
theorem dX3_isSame_338 : decode cX3_isSame 338 = .ok (.istore_n 3, 1) := by decide +kernel
theorem dX3_isSame_339 : decode cX3_isSame 339 = .ok (.iconst 0, 1) := by decide +kernel
theorem dX3_isSame_340 : decode cX3_isSame 340 = .ok (.istore 4, 2) := by decide +kernel
theorem dX3_isSame_342 : decode cX3_isSame 342 = .ok (.iload 4, 2) := by decide +kernel
theorem dX3_isSame_344 : decode cX3_isSame 344 = .ok (.aload_n 0, 1) := by decide +kernel
theorem dX3_isSame_345 : decode cX3_isSame 345 = .ok (.getfield 18, 3) := by decide +kernel
theorem dX3_isSame_348 : decode cX3_isSame 348 = .ok (.arraylength, 1) := by decide +kernel
theorem dX3_isSame_349 : decode cX3_isSame 349 = .ok (.if_icmp .ge 37, 3) := by decide +kernel
theorem dX3_isSame_352 : decode cX3_isSame 352 = .ok (.aload_n 1, 1) := by decide +kernel
theorem dX3_isSame_353 : decode cX3_isSame 353 = .ok (.iload 4, 2) := by decide +kernel
theorem dX3_isSame_355 : decode cX3_isSame 355 = .ok (.invokevirtual 115, 3) := by decide +kernel
theorem dX3_isSame_358 : decode cX3_isSame 358 = .ok (.aload_n 0, 1) := by decide +kernel
theorem dX3_isSame_359 : decode cX3_isSame 359 = .ok (.getfield 18, 3) := by decide +kernel
theorem dX3_isSame_362 : decode cX3_isSame 362 = .ok (.iload 4, 2) := by decide +kernel
theorem dX3_isSame_364 : decode cX3_isSame 364 = .ok (.iaload, 1) := by decide +kernel
theorem dX3_isSame_365 : decode cX3_isSame 365 = .ok (.if_icmp .eq 5, 3) := by decide +kernel
theorem dX3_isSame_368 : decode cX3_isSame 368 = .ok (.iconst 0, 1) := by decide +kernel
theorem dX3_isSame_369 : decode cX3_isSame 369 = .ok (.ireturn, 1) := by decide +kernel
theorem dX3_isSame_370 : decode cX3_isSame 370 = .ok (.iload_n 3, 1) := by decide +kernel
theorem dX3_isSame_371 : decode cX3_isSame 371 = .ok (.aload_n 0, 1) := by decide +kernel
theorem dX3_isSame_372 : decode cX3_isSame 372 = .ok (.getfield 18, 3) := by decide +kernel
theorem dX3_isSame_375 : decode cX3_isSame 375 = .ok (.iload 4, 2) := by decide +kernel
theorem dX3_isSame_377 : decode cX3_isSame 377 = .ok (.iaload, 1) := by decide +kernel
theorem dX3_isSame_378 : decode cX3_isSame 378 = .ok (.iadd, 1) := by decide +kernel
theorem dX3_isSame_379 : decode cX3_isSame 379 = .ok (.istore_n 3, 1) := by decide +kernel
theorem dX3_isSame_380 : decode cX3_isSame 380 = .ok (.iinc 4 1, 3) := by decide +kernel
theorem dX3_isSame_383 : decode cX3_isSame 383 = .ok (.goto (-41), 3) := by decide +kernel
theorem dX3_isSame_386 : decode cX3_isSame 386 = .ok (.aload_n 1, 1) := by decide +kernel
theorem dX3_isSame_387 : decode cX3_isSame 387 = .ok (.invokevirtual 118, 3) := by decide +kernel
theorem dX3_isSame_390 : decode cX3_isSame 390 = .ok (.aload_n 0, 1) := by decide +kernel
theorem dX3_isSame_391 : decode cX3_isSame 391 = .ok (.getfield 9, 3) := by decide +kernel
theorem dX3_isSame_394 : decode cX3_isSame 394 = .ok (.arraylength, 1) := by decide +kernel
theorem dX3_isSame_395 : decode cX3_isSame 395 = .ok (.if_icmp .ne 124, 3) := by decide +kernel
theorem dX3_isSame_398 : decode cX3_isSame 398 = .ok (.aload_n 1, 1) := by decide +kernel
theorem dX3_isSame_399 : decode cX3_isSame 399 = .ok (.invokevirtual 121, 3) := by decide +kernel
theorem dX3_isSame_402 : decode cX3_isSame 402 = .ok (.aload_n 0, 1) := by decide +kernel
theorem dX3_isSame_403 : decode cX3_isSame 403 = .ok (.getfield 15, 3) := by decide +kernel
theorem dX3_isSame_406 : decode cX3_isSame 406 = .ok (.arraylength, 1) := by decide +kernel
theorem dX3_isSame_407 : decode cX3_isSame 407 = .ok (.if_icmp .ne 112, 3) := by decide +kernel
theorem dX3_isSame_410 : decode cX3_isSame 410 = .ok (.aload_n 1, 1) := by decide +kernel
theorem dX3_isSame_411 : decode cX3_isSame 411 = .ok (.invokevirtual 123, 3) := by decide +kernel
theorem dX3_isSame_414 : decode cX3_isSame 414 = .ok (.aload_n 0, 1) := by decide +kernel
theorem dX3_isSame_415 : decode cX3_isSame 415 = .ok (.getfield 18, 3) := by decide +kernel
theorem dX3_isSame_418 : decode cX3_isSame 418 = .ok (.arraylength, 1) := by decide +kernel
theorem dX3_isSame_419 : decode cX3_isSame 419 = .ok (.if_icmp .ne 100, 3) := by decide +kernel
theorem dX3_isSame_422 : decode cX3_isSame 422 = .ok (.aload_n 1, 1) := by decide +kernel
theorem dX3_isSame_423 : decode cX3_isSame 423 = .ok (.invokevirtual 126, 3) := by decide +kernel
theorem dX3_isSame_426 : decode cX3_isSame 426 = .ok (.aload_n 0, 1) := by decide +kernel
theorem dX3_isSame_427 : decode cX3_isSame 427 = .ok (.getfield 21, 3) := by decide +kernel
theorem dX3_isSame_430 : decode cX3_isSame 430 = .ok (.arraylength, 1) := by decide +kernel
theorem dX3_isSame_431 : decode cX3_isSame 431 = .ok (.if_icmp .ne 88, 3) := by decide +kernel
theorem dX3_isSame_434 : decode cX3_isSame 434 = .ok (.aload_n 1, 1) := by decide +kernel
theorem dX3_isSame_435 : decode cX3_isSame 435 = .ok (.invokevirtual 129, 3) := by decide +kernel
theorem dX3_isSame_438 : decode cX3_isSame 438 = .ok (.aload_n 0, 1) := by decide +kernel
theorem dX3_isSame_439 : decode cX3_isSame 439 = .ok (.getfield 29, 3) := by decide +kernel
theorem dX3_isSame_442 : decode cX3_isSame 442 = .ok (.if_icmp .ne 77, 3) := by decide +kernel
theorem dX3_isSame_445 : decode cX3_isSame 445 = .ok (.aload_n 1, 1) := by decide +kernel
theorem dX3_isSame_446 : decode cX3_isSame 446 = .ok (.invokevirtual 131, 3) := by decide +kernel
theorem dX3_isSame_449 : decode cX3_isSame 449 = .ok (.aload_n 0, 1) := by decide +kernel
theorem dX3_isSame_450 : decode cX3_isSame 450 = .ok (.getfield 33, 3) := by decide +kernel
theorem dX3_isSame_453 : decode cX3_isSame 453 = .ok (.if_icmp .ne 66, 3) := by decide +kernel
theorem dX3_isSame_456 : decode cX3_isSame 456 = .ok (.aload_n 1, 1) := by decide +kernel
theorem dX3_isSame_457 : decode cX3_isSame 457 = .ok (.invokevirtual 133, 3) := by decide +kernel
theorem dX3_isSame_460 : decode cX3_isSame 460 = .ok (.aload_n 0, 1) := by decide +kernel
theorem dX3_isSame_461 : decode cX3_isSame 461 = .ok (.invokevirtual 136, 3) := by decide +kernel
theorem dX3_isSame_464 : decode cX3_isSame 464 = .ok (.if_icmp .ne 55, 3) := by decide +kernel
theorem dX3_isSame_467 : decode cX3_isSame 467 = .ok (.aload_n 1, 1) := by decide +kernel
theorem dX3_isSame_468 : decode cX3_isSame 468 = .ok (.invokevirtual 139, 3) := by decide +kernel
theorem dX3_isSame_471 : decode cX3_isSame 471 = .ok (.aload_n 0, 1) := by decide +kernel
theorem dX3_isSame_472 : decode cX3_isSame 472 = .ok (.getfield 36, 3) := by decide +kernel
theorem dX3_isSame_475 : decode cX3_isSame 475 = .ok (.if_icmp .ne 44, 3) := by decide +kernel
theorem dX3_isSame_478 : decode cX3_isSame 478 = .ok (.aload_n 1, 1) := by decide +kernel
theorem dX3_isSame_479 : decode cX3_isSame 479 = .ok (.invokevirtual 142, 3) := by decide +kernel
theorem dX3_isSame_482 : decode cX3_isSame 482 = .ok (.iload_n 2, 1) := by decide +kernel
theorem dX3_isSame_483 : decode cX3_isSame 483 = .ok (.if_icmp .ne 36, 3) := by decide +kernel
theorem dX3_isSame_486 : decode cX3_isSame 486 = .ok (.aload_n 1, 1) := by decide +kernel
theorem dX3_isSame_487 : decode cX3_isSame 487 = .ok (.invokevirtual 145, 3) := by decide +kernel
theorem dX3_isSame_490 : decode cX3_isSame 490 = .ok (.aload_n 0, 1) := by decide +kernel
theorem dX3_isSame_491 : decode cX3_isSame 491 = .ok (.getfield 18, 3) := by decide +kernel
theorem dX3_isSame_494 : decode cX3_isSame 494 = .ok (.arraylength, 1) := by decide +kernel
theorem dX3_isSame_495 : decode cX3_isSame 495 = .ok (.ifCond .ne 7, 3) := by decide +kernel
theorem dX3_isSame_498 : decode cX3_isSame 498 = .ok (.dconst 0, 1) := by decide +kernel
theorem dX3_isSame_499 : decode cX3_isSame 499 = .ok (.goto 12, 3) := by decide +kernel
theorem dX3_isSame_502 : decode cX3_isSame 502 = .ok (.iload_n 3, 1) := by decide +kernel
theorem dX3_isSame_503 : decode cX3_isSame 503 = .ok (.i2d, 1) := by decide +kernel
theorem dX3_isSame_504 : decode cX3_isSame 504 = .ok (.aload_n 0, 1) := by decide +kernel
theorem dX3_isSame_505 : decode cX3_isSame 505 = .ok (.getfield 18, 3) := by decide +kernel
theorem dX3_isSame_508 : decode cX3_isSame 508 = .ok (.arraylength, 1) := by decide +kernel
theorem dX3_isSame_509 : decode cX3_isSame 509 = .ok (.i2d, 1) := by decide +kernel
theorem dX3_isSame_510 : decode cX3_isSame 510 = .ok (.ddiv, 1) := by decide +kernel
theorem dX3_isSame_511 : decode cX3_isSame 511 = .ok (.dcmp .l, 1) := by decide +kernel
theorem dX3_isSame_512 : decode cX3_isSame 512 = .ok (.ifCond .ne 7, 3) := by decide +kernel
theorem dX3_isSame_515 : decode cX3_isSame 515 = .ok (.iconst 1, 1) := by decide +kernel
theorem dX3_isSame_516 : decode cX3_isSame 516 = .ok (.goto 4, 3) := by decide +kernel
theorem dX3_isSame_519 : decode cX3_isSame 519 = .ok (.iconst 0, 1) := by decide +kernel
theorem dX3_isSame_520 : decode cX3_isSame 520 = .ok (.ireturn, 1) := by decide +kernel
theorem dJ9_max_7cf53_0 : decode cJ9_max_7cf53 0 = .ok (.iload_n 0, 1) := by decide +kernel
theorem dJ9_max_7cf53_1 : decode cJ9_max_7cf53 1 = .ok (.iload_n 1, 1) := by decide +kernel
theorem dJ9_max_7cf53_2 : decode cJ9_max_7cf53 2 = .ok (.if_icmp .lt 7, 3) := by decide +kernel
theorem dJ9_max_7cf53_5 : decode cJ9_max_7cf53 5 = .ok (.iload_n 0, 1) := by decide +kernel
theorem dJ9_max_7cf53_6 : decode cJ9_max_7cf53 6 = .ok (.goto 4, 3) := by decide +kernel
theorem dJ9_max_7cf53_9 : decode cJ9_max_7cf53 9 = .ok (.iload_n 1, 1) := by decide +kernel
theorem dJ9_max_7cf53_10 : decode cJ9_max_7cf53 10 = .ok (.ireturn, 1) := by decide +kernel
theorem dJ9_min_7cf53_0 : decode cJ9_min_7cf53 0 = .ok (.iload_n 0, 1) := by decide +kernel
theorem dJ9_min_7cf53_1 : decode cJ9_min_7cf53 1 = .ok (.iload_n 1, 1) := by decide +kernel
theorem dJ9_min_7cf53_2 : decode cJ9_min_7cf53 2 = .ok (.if_icmp .gt 7, 3) := by decide +kernel
theorem dJ9_min_7cf53_5 : decode cJ9_min_7cf53 5 = .ok (.iload_n 0, 1) := by decide +kernel
theorem dJ9_min_7cf53_6 : decode cJ9_min_7cf53 6 = .ok (.goto 4, 3) := by decide +kernel
theorem dJ9_min_7cf53_9 : decode cJ9_min_7cf53 9 = .ok (.iload_n 1, 1) := by decide +kernel
theorem dJ9_min_7cf53_10 : decode cJ9_min_7cf53 10 = .ok (.ireturn, 1) := by decide +kernel
theorem dL_below_0 : decode cL_below 0 = .ok (.iload_n 0, 1) := by decide +kernel
theorem dL_below_1 : decode cL_below 1 = .ok (.ldc 7, 2) := by decide +kernel
theorem dL_below_3 : decode cL_below 3 = .ok (.iand, 1) := by decide +kernel
theorem dL_below_4 : decode cL_below 4 = .ok (.iload_n 1, 1) := by decide +kernel
theorem dL_below_5 : decode cL_below 5 = .ok (.irem, 1) := by decide +kernel
theorem dL_below_6 : decode cL_below 6 = .ok (.ireturn, 1) := by decide +kernel
theorem dL_cell_0 : decode cL_cell 0 = .ok (.iload_n 1, 1) := by decide +kernel
theorem dL_cell_1 : decode cL_cell 1 = .ok (.aload_n 0, 1) := by decide +kernel
theorem dL_cell_2 : decode cL_cell 2 = .ok (.arraylength, 1) := by decide +kernel
theorem dL_cell_3 : decode cL_cell 3 = .ok (.if_icmp .ge 9, 3) := by decide +kernel
theorem dL_cell_6 : decode cL_cell 6 = .ok (.aload_n 0, 1) := by decide +kernel
theorem dL_cell_7 : decode cL_cell 7 = .ok (.iload_n 1, 1) := by decide +kernel
theorem dL_cell_8 : decode cL_cell 8 = .ok (.iaload, 1) := by decide +kernel
theorem dL_cell_9 : decode cL_cell 9 = .ok (.goto 9, 3) := by decide +kernel
theorem dL_cell_12 : decode cL_cell 12 = .ok (.ldc 8, 2) := by decide +kernel
theorem dL_cell_14 : decode cL_cell 14 = .ok (.iload_n 1, 1) := by decide +kernel
theorem dL_cell_15 : decode cL_cell 15 = .ok (.iconst 3, 1) := by decide +kernel
theorem dL_cell_16 : decode cL_cell 16 = .ok (.iadd, 1) := by decide +kernel
theorem dL_cell_17 : decode cL_cell 17 = .ok (.imul, 1) := by decide +kernel
theorem dL_cell_18 : decode cL_cell 18 = .ok (.ireturn, 1) := by decide +kernel
set_option maxRecDepth 20000 in
theorem ggL_act_L_below : GoodIn wsL_act wsL_below := goodIn_r _ [11, 12] (by decide +kernel) (by decide +kernel)
set_option maxRecDepth 20000 in
theorem gL_act_L_below : GoodIn wsL_act (va_wsS RL 15 yL_below wsL_below) := goodIn_app (goodIn_of _ (by decide +kernel)) ggL_act_L_below
set_option maxRecDepth 20000 in
theorem ggL_act_L_refused : GoodIn wsL_act wsL_refused := goodIn_r _ [15, 2, 4, 3, 8, 9, 10, 11, 12, 16, 17, 18, 19, 20, 21, 276, 277, 278, 279, 280, 281, 282] (by decide +kernel) (by decide +kernel)
set_option maxRecDepth 20000 in
theorem gL_act_L_refused : GoodIn wsL_act (va_wsS RL 28 yL_refused wsL_refused) := goodIn_app (goodIn_of _ (by decide +kernel)) ggL_act_L_refused
set_option maxRecDepth 20000 in
theorem ggL_act_X2_addShip : GoodIn wsL_act wsX2_addShip := goodIn_ca (goodIn_ca (goodIn_r _ [26, 27, 28, 29, 30, 31, 32, 33, 34, 35, 36, 37, 38, 39, 25, 40, 283, 284, 285, 286, 287, 288, 289, 290, 291, 292, 293] (by decide +kernel) (by decide +kernel)) (goodIn_sub (fun _ h => List.mem_cons_of_mem _ (List.mem_append_left _ (List.mem_append_left _ (List.mem_append_right _ h)))) (by decide +kernel))) (goodIn_sub (fun _ h => List.mem_cons_of_mem _ (List.mem_append_left _ (List.mem_append_right _ h))) (by decide +kernel))
set_option maxRecDepth 20000 in
theorem gL_act_X2_addShip : GoodIn wsL_act (wsV RL 32 RX2 yX2_addShip wsX2_addShip) := goodIn_app (goodIn_of _ (by decide +kernel)) ggL_act_X2_addShip
set_option maxRecDepth 20000 in
theorem ggL_act_X3_more : GoodIn wsL_act wsX3_more := goodIn_r _ [43, 44] (by decide +kernel) (by decide +kernel)
set_option maxRecDepth 20000 in
theorem gL_act_X3_more : GoodIn wsL_act (va_wsS RL 38 yX3_more wsX3_more) := goodIn_app (goodIn_of _ (by decide +kernel)) ggL_act_X3_more
set_option maxRecDepth 20000 in
theorem ggL_act_X2_addSailor : GoodIn wsL_act wsX2_addSailor := goodIn_ca (goodIn_ca (goodIn_r _ [48, 49, 50, 29, 30, 31, 51, 52, 53, 54, 25, 55, 56, 57, 58, 59, 60, 61, 62, 63, 64, 65, 66, 67, 35, 68, 69, 70, 71, 72, 39, 40, 73, 74, 283, 284, 285, 286, 287, 288, 289, 290, 291, 292, 293, 294, 295, 296, 297, 298, 299, 300, 301, 302, 303] (by decide +kernel) (by decide +kernel)) (goodIn_sub (fun _ h => List.mem_cons_of_mem _ (List.mem_append_right _ h)) (by decide +kernel))) (goodIn_sub (fun _ h => List.mem_cons_of_mem _ (List.mem_append_left _ (List.mem_append_right _ h))) (by decide +kernel))
set_option maxRecDepth 20000 in
theorem gL_act_X2_addSailor : GoodIn wsL_act (wsV RL 42 RX2 yX2_addSailor wsX2_addSailor) := goodIn_app (goodIn_of _ (by decide +kernel)) ggL_act_X2_addSailor
set_option maxRecDepth 20000 in
theorem ggL_act_X2_addWatcher : GoodIn wsL_act wsX2_addWatcher := goodIn_ca (goodIn_r _ [78, 29, 30, 31, 51, 79, 80, 81, 35, 82, 83, 84, 39, 25, 40, 283, 284, 285, 286, 287, 288, 289, 290, 291, 292, 293, 294, 295, 296, 297, 298, 299, 300, 301, 302, 303] (by decide +kernel) (by decide +kernel)) (goodIn_sub (fun _ h => List.mem_cons_of_mem _ (List.mem_append_left _ (List.mem_append_right _ h))) (by decide +kernel))
set_option maxRecDepth 20000 in
theorem gL_act_X2_addWatcher : GoodIn wsL_act (wsV RL 46 RX2 yX2_addWatcher wsX2_addWatcher) := goodIn_app (goodIn_of _ (by decide +kernel)) ggL_act_X2_addWatcher
set_option maxRecDepth 20000 in
theorem ggL_act_X2_buyWax : GoodIn wsL_act wsX2_buyWax := goodIn_ca (goodIn_r _ [88, 27, 28, 51, 283, 284, 285, 294, 295, 296, 297, 298, 299, 300, 301, 302, 303] (by decide +kernel) (by decide +kernel)) (goodIn_sub (fun _ h => List.mem_cons_of_mem _ (List.mem_append_left _ (List.mem_append_left _ (List.mem_append_right _ h)))) (by decide +kernel))
set_option maxRecDepth 20000 in
theorem gL_act_X2_buyWax : GoodIn wsL_act (wsV RL 54 RX2 yX2_buyWax wsX2_buyWax) := goodIn_app (goodIn_of _ (by decide +kernel)) ggL_act_X2_buyWax
set_option maxRecDepth 20000 in
theorem ggL_act_X2_sail : GoodIn wsL_act wsX2_sail := goodIn_ca (goodIn_ca (goodIn_r _ [92, 29, 30, 51, 31, 52, 53, 54, 25, 55, 49, 50, 59, 60, 61, 62, 63, 64, 57, 58, 93, 94, 95, 35, 96, 70, 97, 98, 99, 100, 101, 102, 103, 39, 40, 104, 105, 106, 107, 108, 109, 110, 111, 112, 113, 283, 284, 285, 286, 287, 288, 289, 290, 291, 292, 293, 294, 295, 296, 297, 298, 299, 300, 301, 302, 303] (by decide +kernel) (by decide +kernel)) (goodIn_sub (fun _ h => List.mem_cons_of_mem _ (List.mem_append_left _ (List.mem_append_right _ h))) (by decide +kernel))) (goodIn_sub (fun _ h => List.mem_cons_of_mem _ (List.mem_append_right _ h)) (by decide +kernel))
set_option maxRecDepth 20000 in
theorem gL_act_X2_sail : GoodIn wsL_act (wsV RL 57 RX2 yX2_sail wsX2_sail) := goodIn_app (goodIn_of _ (by decide +kernel)) ggL_act_X2_sail
set_option maxRecDepth 20000 in
theorem ggL_act_X3_light : GoodIn wsL_act wsX3_light := goodIn_r _ [117, 118, 276, 277, 278, 279, 280, 281, 282] (by decide +kernel) (by decide +kernel)
set_option maxRecDepth 20000 in
theorem gL_act_X3_light : GoodIn wsL_act (wsV RL 60 RX3 yX3_light wsX3_light) := goodIn_app (goodIn_of _ (by decide +kernel)) ggL_act_X3_light
set_option maxRecDepth 20000 in
theorem ggL_act_X2_comeHome : GoodIn wsL_act wsX2_comeHome := goodIn_ca (goodIn_ca (goodIn_r _ [122, 29, 30, 51, 52, 53, 54, 25, 55, 49, 50, 31, 59, 60, 61, 62, 63, 64, 57, 58, 123, 124, 125, 126, 127, 128, 129, 130, 131, 132, 133, 134, 135, 136, 137, 138, 139, 39, 40, 140, 141, 142, 143, 144, 103, 112, 113, 73, 74, 104, 105, 106, 35, 107, 70, 56, 283, 284, 285, 294, 295, 296, 297, 298, 299, 300, 301, 302, 303, 286, 287, 288, 289, 290, 291, 292, 293] (by decide +kernel) (by decide +kernel)) (goodIn_sub (fun _ h => List.mem_cons_of_mem _ (List.mem_append_left _ (List.mem_append_right _ h))) (by decide +kernel))) (goodIn_sub (fun _ h => List.mem_cons_of_mem _ (List.mem_append_right _ h)) (by decide +kernel))
set_option maxRecDepth 20000 in
theorem gL_act_X2_comeHome : GoodIn wsL_act (wsV RL 64 RX2 yX2_comeHome wsX2_comeHome) := goodIn_app (goodIn_of _ (by decide +kernel)) ggL_act_X2_comeHome
set_option maxRecDepth 20000 in
theorem ggL_act_X3_ends : GoodIn wsL_act wsX3_ends := goodIn_r _ [148, 149, 150, 118, 151, 152, 153, 19, 154, 44, 21, 155, 42, 43, 276, 277, 278, 279, 280, 281, 282] (by decide +kernel) (by decide +kernel)
set_option maxRecDepth 20000 in
theorem gL_act_X3_ends : GoodIn wsL_act (wsV RL 70 RX3 yX3_ends wsX3_ends) := goodIn_app (goodIn_of _ (by decide +kernel)) ggL_act_X3_ends
set_option maxRecDepth 20000 in
theorem ggL_act_X2_sight : GoodIn wsL_act wsX2_sight := goodIn_ca (goodIn_ca (goodIn_r _ [159, 51, 160, 161, 162, 25, 163, 29, 30, 164, 165, 166, 167, 49, 50, 31, 52, 53, 54, 55, 59, 60, 61, 62, 63, 64, 57, 58, 168, 133, 134, 135, 136, 137, 138, 139, 169, 170, 171, 172, 144, 39, 40, 173, 174, 175, 176, 127, 132, 73, 74, 177, 178, 179, 283, 284, 285, 294, 295, 296, 297, 298, 299, 300, 301, 302, 303, 286, 287, 288, 289, 290, 291, 292, 293] (by decide +kernel) (by decide +kernel)) (goodIn_sub (fun _ h => List.mem_cons_of_mem _ (List.mem_append_left _ (List.mem_append_right _ h))) (by decide +kernel))) (goodIn_sub (fun _ h => List.mem_cons_of_mem _ (List.mem_append_right _ h)) (by decide +kernel))
set_option maxRecDepth 20000 in
theorem gL_act_X2_sight : GoodIn wsL_act (wsV RL 74 RX2 yX2_sight wsX2_sight) := goodIn_app (goodIn_of _ (by decide +kernel)) ggL_act_X2_sight
set_option maxRecDepth 20000 in
theorem ggL_act_X3_trustIn : GoodIn wsL_act wsX3_trustIn := goodIn_r _ [183, 21, 184, 276, 277, 278, 279, 280, 281, 282] (by decide +kernel) (by decide +kernel)
set_option maxRecDepth 20000 in
theorem gL_act_X3_trustIn : GoodIn wsL_act (wsV RL 78 RX3 yX3_trustIn wsX3_trustIn) := goodIn_app (goodIn_of _ (by decide +kernel)) ggL_act_X3_trustIn
set_option maxRecDepth 20000 in
theorem ggL_act_X2_vote : GoodIn wsL_act wsX2_vote := goodIn_ca (goodIn_ca (goodIn_r _ [188, 29, 30, 31, 51, 189, 190, 191, 25, 192, 49, 50, 177, 178, 179, 193, 105, 106, 35, 107, 70, 59, 60, 61, 62, 63, 64, 57, 58, 194, 73, 74, 195, 196, 197, 198, 97, 199, 200, 201, 202, 283, 284, 285, 286, 287, 288, 289, 290, 291, 292, 293, 294, 295, 296, 297, 298, 299, 300, 301, 302, 303] (by decide +kernel) (by decide +kernel)) (goodIn_sub (fun _ h => List.mem_cons_of_mem _ (List.mem_append_left _ (List.mem_append_right _ h))) (by decide +kernel))) (goodIn_sub (fun _ h => List.mem_cons_of_mem _ (List.mem_append_right _ h)) (by decide +kernel))
set_option maxRecDepth 20000 in
theorem gL_act_X2_vote : GoodIn wsL_act (wsV RL 81 RX2 yX2_vote wsX2_vote) := goodIn_app (goodIn_of _ (by decide +kernel)) ggL_act_X2_vote
set_option maxRecDepth 20000 in
theorem ggL_act_X3_votes : GoodIn wsL_act wsX3_votes := goodIn_r _ [206, 150, 276, 277, 278, 279, 280, 281, 282] (by decide +kernel) (by decide +kernel)
set_option maxRecDepth 20000 in
theorem gL_act_X3_votes : GoodIn wsL_act (wsV RL 85 RX3 yX3_votes wsX3_votes) := goodIn_app (goodIn_of _ (by decide +kernel)) ggL_act_X3_votes
set_option maxRecDepth 20000 in
theorem ggL_act_X3_pass : GoodIn wsL_act wsX3_pass := goodIn_r _ [210, 21, 184, 149, 211, 150, 212, 151, 152, 153, 19, 154, 44, 155, 42, 43, 213, 181, 182, 183, 214, 115, 116, 117, 118, 215, 204, 205, 206, 216, 146, 147, 148, 276, 277, 278, 279, 280, 281, 282] (by decide +kernel) (by decide +kernel)
set_option maxRecDepth 20000 in
theorem gL_act_X3_pass : GoodIn wsL_act (wsV RL 88 RX3 yX3_pass wsX3_pass) := goodIn_app (goodIn_of _ (by decide +kernel)) ggL_act_X3_pass
set_option maxRecDepth 20000 in
theorem ggL_act_X2_burnNights : GoodIn wsL_act wsX2_burnNights := goodIn_ca (goodIn_r _ [220, 51, 221, 222, 25, 223, 27, 28, 224, 225, 226, 62, 227, 228, 229, 230, 231, 232, 233, 234, 235, 236, 136, 237, 238, 239, 240, 241, 242, 243, 127, 244, 245, 130, 246, 57, 58, 39, 40, 247, 248, 249, 250, 144, 251, 178, 179, 173, 174, 175, 176, 132, 133, 134, 135, 137, 138, 139, 73, 74, 252, 253, 254, 255, 103, 113, 104, 105, 106, 35, 107, 70, 256, 60, 61, 63, 64, 257, 258, 259, 260, 108, 109, 110, 111, 112, 261, 262, 263, 264, 102, 265, 266, 267, 268, 269, 270, 271, 272, 273, 72, 199, 200, 201, 202, 274, 196, 197, 198, 97, 275, 141, 142, 143, 283, 284, 285, 294, 295, 296, 297, 298, 299, 300, 301, 302, 303, 286, 287, 288, 289, 290, 291, 292, 293] (by decide +kernel) (by decide +kernel)) (goodIn_sub (fun _ h => List.mem_cons_of_mem _ (List.mem_append_left _ (List.mem_append_left _ (List.mem_append_right _ h)))) (by decide +kernel))
set_option maxRecDepth 20000 in
theorem gL_act_X2_burnNights : GoodIn wsL_act (wsV RL 91 RX2 yX2_burnNights wsX2_burnNights) := goodIn_app (goodIn_of _ (by decide +kernel)) ggL_act_X2_burnNights
theorem dL_act_0 : decode cL_act 0 = .ok (.aload_n 1, 1) := by decide +kernel
theorem dL_act_1 : decode cL_act 1 = .ok (.getfield 9, 3) := by decide +kernel
theorem dL_act_4 : decode cL_act 4 = .ok (.arraylength, 1) := by decide +kernel
theorem dL_act_5 : decode cL_act 5 = .ok (.ifCond .ne 7, 3) := by decide +kernel
theorem dL_act_8 : decode cL_act 8 = .ok (.iconst 0, 1) := by decide +kernel
theorem dL_act_9 : decode cL_act 9 = .ok (.goto 14, 3) := by decide +kernel
theorem dL_act_12 : decode cL_act 12 = .ok (.iload_n 2, 1) := by decide +kernel
theorem dL_act_13 : decode cL_act 13 = .ok (.iconst 4, 1) := by decide +kernel
theorem dL_act_14 : decode cL_act 14 = .ok (.ishr, 1) := by decide +kernel
theorem dL_act_15 : decode cL_act 15 = .ok (.aload_n 1, 1) := by decide +kernel
theorem dL_act_16 : decode cL_act 16 = .ok (.getfield 9, 3) := by decide +kernel
theorem dL_act_19 : decode cL_act 19 = .ok (.arraylength, 1) := by decide +kernel
theorem dL_act_20 : decode cL_act 20 = .ok (.invokestatic 15, 3) := by decide +kernel
theorem dL_act_23 : decode cL_act 23 = .ok (.istore_n 3, 1) := by decide +kernel
theorem dL_act_24 : decode cL_act 24 = .ok (.aload_n 1, 1) := by decide +kernel
theorem dL_act_25 : decode cL_act 25 = .ok (.getfield 21, 3) := by decide +kernel
theorem dL_act_28 : decode cL_act 28 = .ok (.arraylength, 1) := by decide +kernel
theorem dL_act_29 : decode cL_act 29 = .ok (.ifCond .ne 7, 3) := by decide +kernel
theorem dL_act_32 : decode cL_act 32 = .ok (.iconst 0, 1) := by decide +kernel
theorem dL_act_33 : decode cL_act 33 = .ok (.goto 15, 3) := by decide +kernel
theorem dL_act_36 : decode cL_act 36 = .ok (.iload_n 2, 1) := by decide +kernel
theorem dL_act_37 : decode cL_act 37 = .ok (.bipush 6, 2) := by decide +kernel
theorem dL_act_39 : decode cL_act 39 = .ok (.ishr, 1) := by decide +kernel
theorem dL_act_40 : decode cL_act 40 = .ok (.aload_n 1, 1) := by decide +kernel
theorem dL_act_41 : decode cL_act 41 = .ok (.getfield 21, 3) := by decide +kernel
theorem dL_act_44 : decode cL_act 44 = .ok (.arraylength, 1) := by decide +kernel
theorem dL_act_45 : decode cL_act 45 = .ok (.invokestatic 15, 3) := by decide +kernel
theorem dL_act_48 : decode cL_act 48 = .ok (.istore 4, 2) := by decide +kernel
theorem dL_act_50 : decode cL_act 50 = .ok (.aload_n 1, 1) := by decide +kernel
theorem dL_act_51 : decode cL_act 51 = .ok (.getfield 25, 3) := by decide +kernel
theorem dL_act_54 : decode cL_act 54 = .ok (.arraylength, 1) := by decide +kernel
theorem dL_act_55 : decode cL_act 55 = .ok (.ifCond .ne 7, 3) := by decide +kernel
theorem dL_act_58 : decode cL_act 58 = .ok (.iconst 0, 1) := by decide +kernel
theorem dL_act_59 : decode cL_act 59 = .ok (.goto 14, 3) := by decide +kernel
theorem dL_act_62 : decode cL_act 62 = .ok (.iload_n 2, 1) := by decide +kernel
theorem dL_act_63 : decode cL_act 63 = .ok (.iconst 5, 1) := by decide +kernel
theorem dL_act_64 : decode cL_act 64 = .ok (.ishr, 1) := by decide +kernel
theorem dL_act_65 : decode cL_act 65 = .ok (.aload_n 1, 1) := by decide +kernel
theorem dL_act_66 : decode cL_act 66 = .ok (.getfield 25, 3) := by decide +kernel
theorem dL_act_69 : decode cL_act 69 = .ok (.arraylength, 1) := by decide +kernel
theorem dL_act_70 : decode cL_act 70 = .ok (.invokestatic 15, 3) := by decide +kernel
theorem dL_act_73 : decode cL_act 73 = .ok (.istore 5, 2) := by decide +kernel
theorem dL_act_75 : decode cL_act 75 = .ok (.aload_n 1, 1) := by decide +kernel
theorem dL_act_76 : decode cL_act 76 = .ok (.getfield 9, 3) := by decide +kernel
theorem dL_act_79 : decode cL_act 79 = .ok (.arraylength, 1) := by decide +kernel
theorem dL_act_80 : decode cL_act 80 = .ok (.ifCond .le 20, 3) := by decide +kernel
theorem dL_act_83 : decode cL_act 83 = .ok (.aload_n 1, 1) := by decide +kernel
theorem dL_act_84 : decode cL_act 84 = .ok (.iload_n 2, 1) := by decide +kernel
theorem dL_act_85 : decode cL_act 85 = .ok (.iload_n 3, 1) := by decide +kernel
theorem dL_act_86 : decode cL_act 86 = .ok (.iload 4, 2) := by decide +kernel
theorem dL_act_88 : decode cL_act 88 = .ok (.iload 5, 2) := by decide +kernel
theorem dL_act_90 : decode cL_act 90 = .ok (.invokestatic 28, 3) := by decide +kernel
theorem dL_act_93 : decode cL_act 93 = .ok (.ifCond .eq 7, 3) := by decide +kernel
theorem dL_act_96 : decode cL_act 96 = .ok (.iconst 1, 1) := by decide +kernel
theorem dL_act_97 : decode cL_act 97 = .ok (.goto 4, 3) := by decide +kernel
theorem dL_act_100 : decode cL_act 100 = .ok (.iconst 0, 1) := by decide +kernel
theorem dL_act_101 : decode cL_act 101 = .ok (.istore 6, 2) := by decide +kernel
theorem dL_act_103 : decode cL_act 103 = .ok (.aload_n 1, 1) := by decide +kernel
theorem dL_act_104 : decode cL_act 104 = .ok (.getfield 9, 3) := by decide +kernel
theorem dL_act_107 : decode cL_act 107 = .ok (.arraylength, 1) := by decide +kernel
theorem dL_act_108 : decode cL_act 108 = .ok (.ifCond .ne 7, 3) := by decide +kernel
theorem dL_act_111 : decode cL_act 111 = .ok (.iconst 0, 1) := by decide +kernel
theorem dL_act_112 : decode cL_act 112 = .ok (.goto 9, 3) := by decide +kernel
theorem dL_act_115 : decode cL_act 115 = .ok (.iload_n 2, 1) := by decide +kernel
theorem dL_act_116 : decode cL_act 116 = .ok (.bipush 18, 2) := by decide +kernel
theorem dL_act_118 : decode cL_act 118 = .ok (.invokestatic 15, 3) := by decide +kernel
theorem dL_act_121 : decode cL_act 121 = .ok (.tableswitch 850 0 13 #[71, 150, 150, 271, 358, 417, 417, 536, 654, 654, 654, 757, 757, 757], 71) := by decide +kernel
theorem dL_act_192 : decode cL_act 192 = .ok (.iconst 1, 1) := by decide +kernel
theorem dL_act_193 : decode cL_act 193 = .ok (.iload_n 2, 1) := by decide +kernel
theorem dL_act_194 : decode cL_act 194 = .ok (.bipush 7, 2) := by decide +kernel
theorem dL_act_196 : decode cL_act 196 = .ok (.ishr, 1) := by decide +kernel
theorem dL_act_197 : decode cL_act 197 = .ok (.iconst 3, 1) := by decide +kernel
theorem dL_act_198 : decode cL_act 198 = .ok (.invokestatic 15, 3) := by decide +kernel
theorem dL_act_201 : decode cL_act 201 = .ok (.iadd, 1) := by decide +kernel
theorem dL_act_202 : decode cL_act 202 = .ok (.istore 7, 2) := by decide +kernel
theorem dL_act_204 : decode cL_act 204 = .ok (.iload 6, 2) := by decide +kernel
theorem dL_act_206 : decode cL_act 206 = .ok (.ifCond .eq 12, 3) := by decide +kernel
theorem dL_act_209 : decode cL_act 209 = .ok (.aload_n 0, 1) := by decide +kernel
theorem dL_act_210 : decode cL_act 210 = .ok (.iload 7, 2) := by decide +kernel
theorem dL_act_212 : decode cL_act 212 = .ok (.invokevirtual 32, 3) := by decide +kernel
theorem dL_act_215 : decode cL_act 215 = .ok (.pop, 1) := by decide +kernel
theorem dL_act_216 : decode cL_act 216 = .ok (.iconst 0, 1) := by decide +kernel
theorem dL_act_217 : decode cL_act 217 = .ok (.ireturn, 1) := by decide +kernel
theorem dL_act_218 : decode cL_act 218 = .ok (.aload_n 1, 1) := by decide +kernel
theorem dL_act_219 : decode cL_act 219 = .ok (.aload_n 1, 1) := by decide +kernel
theorem dL_act_220 : decode cL_act 220 = .ok (.getfield 9, 3) := by decide +kernel
theorem dL_act_223 : decode cL_act 223 = .ok (.iconst 4, 1) := by decide +kernel
theorem dL_act_224 : decode cL_act 224 = .ok (.newarray .int, 2) := by decide +kernel
theorem dL_act_226 : decode cL_act 226 = .ok (.dup, 1) := by decide +kernel
theorem dL_act_227 : decode cL_act 227 = .ok (.iconst 0, 1) := by decide +kernel
theorem dL_act_228 : decode cL_act 228 = .ok (.iload 7, 2) := by decide +kernel
theorem dL_act_230 : decode cL_act 230 = .ok (.iastore, 1) := by decide +kernel
theorem dL_act_231 : decode cL_act 231 = .ok (.dup, 1) := by decide +kernel
theorem dL_act_232 : decode cL_act 232 = .ok (.iconst 1, 1) := by decide +kernel
theorem dL_act_233 : decode cL_act 233 = .ok (.iconst 0, 1) := by decide +kernel
theorem dL_act_234 : decode cL_act 234 = .ok (.iastore, 1) := by decide +kernel
theorem dL_act_235 : decode cL_act 235 = .ok (.dup, 1) := by decide +kernel
theorem dL_act_236 : decode cL_act 236 = .ok (.iconst 2, 1) := by decide +kernel
theorem dL_act_237 : decode cL_act 237 = .ok (.iconst 0, 1) := by decide +kernel
theorem dL_act_238 : decode cL_act 238 = .ok (.iastore, 1) := by decide +kernel
theorem dL_act_239 : decode cL_act 239 = .ok (.dup, 1) := by decide +kernel
theorem dL_act_240 : decode cL_act 240 = .ok (.iconst 3, 1) := by decide +kernel
theorem dL_act_241 : decode cL_act 241 = .ok (.iconst 0, 1) := by decide +kernel
theorem dL_act_242 : decode cL_act 242 = .ok (.iastore, 1) := by decide +kernel
theorem dL_act_243 : decode cL_act 243 = .ok (.invokestatic 38, 3) := by decide +kernel
theorem dL_act_246 : decode cL_act 246 = .ok (.putfield 9, 3) := by decide +kernel
theorem dL_act_249 : decode cL_act 249 = .ok (.aload_n 0, 1) := by decide +kernel
theorem dL_act_250 : decode cL_act 250 = .ok (.iload 7, 2) := by decide +kernel
theorem dL_act_252 : decode cL_act 252 = .ok (.invokevirtual 32, 3) := by decide +kernel
theorem dL_act_255 : decode cL_act 255 = .ok (.aload_n 1, 1) := by decide +kernel
theorem dL_act_256 : decode cL_act 256 = .ok (.getfield 9, 3) := by decide +kernel
theorem dL_act_259 : decode cL_act 259 = .ok (.arraylength, 1) := by decide +kernel
theorem dL_act_260 : decode cL_act 260 = .ok (.iconst 1, 1) := by decide +kernel
theorem dL_act_261 : decode cL_act 261 = .ok (.isub, 1) := by decide +kernel
theorem dL_act_262 : decode cL_act 262 = .ok (.if_icmp .ne 7, 3) := by decide +kernel
theorem dL_act_265 : decode cL_act 265 = .ok (.iconst 1, 1) := by decide +kernel
theorem dL_act_266 : decode cL_act 266 = .ok (.goto 4, 3) := by decide +kernel
theorem dL_act_269 : decode cL_act 269 = .ok (.iconst 0, 1) := by decide +kernel
theorem dL_act_270 : decode cL_act 270 = .ok (.ireturn, 1) := by decide +kernel
theorem dL_act_271 : decode cL_act 271 = .ok (.iload_n 2, 1) := by decide +kernel
theorem dL_act_272 : decode cL_act 272 = .ok (.bipush 7, 2) := by decide +kernel
theorem dL_act_274 : decode cL_act 274 = .ok (.ishr, 1) := by decide +kernel
theorem dL_act_275 : decode cL_act 275 = .ok (.aload_n 1, 1) := by decide +kernel
theorem dL_act_276 : decode cL_act 276 = .ok (.getfield 9, 3) := by decide +kernel
theorem dL_act_279 : decode cL_act 279 = .ok (.iload_n 3, 1) := by decide +kernel
theorem dL_act_280 : decode cL_act 280 = .ok (.aaload, 1) := by decide +kernel
theorem dL_act_281 : decode cL_act 281 = .ok (.iconst 0, 1) := by decide +kernel
theorem dL_act_282 : decode cL_act 282 = .ok (.iaload, 1) := by decide +kernel
theorem dL_act_283 : decode cL_act 283 = .ok (.invokestatic 15, 3) := by decide +kernel
theorem dL_act_286 : decode cL_act 286 = .ok (.istore 7, 2) := by decide +kernel
theorem dL_act_288 : decode cL_act 288 = .ok (.iload_n 2, 1) := by decide +kernel
theorem dL_act_289 : decode cL_act 289 = .ok (.bipush 9, 2) := by decide +kernel
theorem dL_act_291 : decode cL_act 291 = .ok (.ishr, 1) := by decide +kernel
theorem dL_act_292 : decode cL_act 292 = .ok (.iconst 3, 1) := by decide +kernel
theorem dL_act_293 : decode cL_act 293 = .ok (.invokestatic 15, 3) := by decide +kernel
theorem dL_act_296 : decode cL_act 296 = .ok (.ifCond .le 7, 3) := by decide +kernel
theorem dL_act_299 : decode cL_act 299 = .ok (.iconst 1, 1) := by decide +kernel
theorem dL_act_300 : decode cL_act 300 = .ok (.goto 4, 3) := by decide +kernel
theorem dL_act_303 : decode cL_act 303 = .ok (.iconst 0, 1) := by decide +kernel
theorem dL_act_304 : decode cL_act 304 = .ok (.istore 8, 2) := by decide +kernel
theorem dL_act_306 : decode cL_act 306 = .ok (.iload 6, 2) := by decide +kernel
theorem dL_act_308 : decode cL_act 308 = .ok (.ifCond .eq 15, 3) := by decide +kernel
theorem dL_act_311 : decode cL_act 311 = .ok (.aload_n 0, 1) := by decide +kernel
theorem dL_act_312 : decode cL_act 312 = .ok (.iload_n 3, 1) := by decide +kernel
theorem dL_act_313 : decode cL_act 313 = .ok (.iload 7, 2) := by decide +kernel
theorem dL_act_315 : decode cL_act 315 = .ok (.iload 8, 2) := by decide +kernel
theorem dL_act_317 : decode cL_act 317 = .ok (.invokevirtual 42, 3) := by decide +kernel
theorem dL_act_320 : decode cL_act 320 = .ok (.pop, 1) := by decide +kernel
theorem dL_act_321 : decode cL_act 321 = .ok (.iconst 0, 1) := by decide +kernel
theorem dL_act_322 : decode cL_act 322 = .ok (.ireturn, 1) := by decide +kernel
theorem dL_act_323 : decode cL_act 323 = .ok (.aload_n 1, 1) := by decide +kernel
theorem dL_act_324 : decode cL_act 324 = .ok (.aload_n 1, 1) := by decide +kernel
theorem dL_act_325 : decode cL_act 325 = .ok (.getfield 25, 3) := by decide +kernel
theorem dL_act_328 : decode cL_act 328 = .ok (.iconst 5, 1) := by decide +kernel
theorem dL_act_329 : decode cL_act 329 = .ok (.newarray .int, 2) := by decide +kernel
theorem dL_act_331 : decode cL_act 331 = .ok (.dup, 1) := by decide +kernel
theorem dL_act_332 : decode cL_act 332 = .ok (.iconst 0, 1) := by decide +kernel
theorem dL_act_333 : decode cL_act 333 = .ok (.iload_n 3, 1) := by decide +kernel
theorem dL_act_334 : decode cL_act 334 = .ok (.iastore, 1) := by decide +kernel
theorem dL_act_335 : decode cL_act 335 = .ok (.dup, 1) := by decide +kernel
theorem dL_act_336 : decode cL_act 336 = .ok (.iconst 1, 1) := by decide +kernel
theorem dL_act_337 : decode cL_act 337 = .ok (.iload 7, 2) := by decide +kernel
theorem dL_act_339 : decode cL_act 339 = .ok (.iastore, 1) := by decide +kernel
theorem dL_act_340 : decode cL_act 340 = .ok (.dup, 1) := by decide +kernel
theorem dL_act_341 : decode cL_act 341 = .ok (.iconst 2, 1) := by decide +kernel
theorem dL_act_342 : decode cL_act 342 = .ok (.iload 8, 2) := by decide +kernel
theorem dL_act_344 : decode cL_act 344 = .ok (.ifCond .eq 7, 3) := by decide +kernel
theorem dL_act_347 : decode cL_act 347 = .ok (.iconst 1, 1) := by decide +kernel
theorem dL_act_348 : decode cL_act 348 = .ok (.goto 4, 3) := by decide +kernel
theorem dL_act_351 : decode cL_act 351 = .ok (.iconst 0, 1) := by decide +kernel
theorem dL_act_352 : decode cL_act 352 = .ok (.iastore, 1) := by decide +kernel
theorem dL_act_353 : decode cL_act 353 = .ok (.dup, 1) := by decide +kernel
theorem dL_act_354 : decode cL_act 354 = .ok (.iconst 3, 1) := by decide +kernel
theorem dL_act_355 : decode cL_act 355 = .ok (.iconst 0, 1) := by decide +kernel
theorem dL_act_356 : decode cL_act 356 = .ok (.iastore, 1) := by decide +kernel
theorem dL_act_357 : decode cL_act 357 = .ok (.dup, 1) := by decide +kernel
theorem dL_act_358 : decode cL_act 358 = .ok (.iconst 4, 1) := by decide +kernel
theorem dL_act_359 : decode cL_act 359 = .ok (.iconst 0, 1) := by decide +kernel
theorem dL_act_360 : decode cL_act 360 = .ok (.iastore, 1) := by decide +kernel
theorem dL_act_361 : decode cL_act 361 = .ok (.invokestatic 38, 3) := by decide +kernel
theorem dL_act_364 : decode cL_act 364 = .ok (.putfield 25, 3) := by decide +kernel
theorem dL_act_367 : decode cL_act 367 = .ok (.aload_n 0, 1) := by decide +kernel
theorem dL_act_368 : decode cL_act 368 = .ok (.iload_n 3, 1) := by decide +kernel
theorem dL_act_369 : decode cL_act 369 = .ok (.iload 7, 2) := by decide +kernel
theorem dL_act_371 : decode cL_act 371 = .ok (.iload 8, 2) := by decide +kernel
theorem dL_act_373 : decode cL_act 373 = .ok (.invokevirtual 42, 3) := by decide +kernel
theorem dL_act_376 : decode cL_act 376 = .ok (.aload_n 1, 1) := by decide +kernel
theorem dL_act_377 : decode cL_act 377 = .ok (.getfield 25, 3) := by decide +kernel
theorem dL_act_380 : decode cL_act 380 = .ok (.arraylength, 1) := by decide +kernel
theorem dL_act_381 : decode cL_act 381 = .ok (.iconst 1, 1) := by decide +kernel
theorem dL_act_382 : decode cL_act 382 = .ok (.isub, 1) := by decide +kernel
theorem dL_act_383 : decode cL_act 383 = .ok (.if_icmp .ne 7, 3) := by decide +kernel
theorem dL_act_386 : decode cL_act 386 = .ok (.iconst 1, 1) := by decide +kernel
theorem dL_act_387 : decode cL_act 387 = .ok (.goto 4, 3) := by decide +kernel
theorem dL_act_390 : decode cL_act 390 = .ok (.iconst 0, 1) := by decide +kernel
theorem dL_act_391 : decode cL_act 391 = .ok (.ireturn, 1) := by decide +kernel
theorem dL_act_392 : decode cL_act 392 = .ok (.iload 6, 2) := by decide +kernel
theorem dL_act_394 : decode cL_act 394 = .ok (.ifCond .eq 10, 3) := by decide +kernel
theorem dL_act_397 : decode cL_act 397 = .ok (.aload_n 0, 1) := by decide +kernel
theorem dL_act_398 : decode cL_act 398 = .ok (.invokevirtual 46, 3) := by decide +kernel
theorem dL_act_401 : decode cL_act 401 = .ok (.pop, 1) := by decide +kernel
theorem dL_act_402 : decode cL_act 402 = .ok (.iconst 0, 1) := by decide +kernel
theorem dL_act_403 : decode cL_act 403 = .ok (.ireturn, 1) := by decide +kernel
theorem dL_act_404 : decode cL_act 404 = .ok (.aload_n 1, 1) := by decide +kernel
theorem dL_act_405 : decode cL_act 405 = .ok (.getfield 21, 3) := by decide +kernel
theorem dL_act_408 : decode cL_act 408 = .ok (.arraylength, 1) := by decide +kernel
theorem dL_act_409 : decode cL_act 409 = .ok (.iconst 1, 1) := by decide +kernel
theorem dL_act_410 : decode cL_act 410 = .ok (.iadd, 1) := by decide +kernel
theorem dL_act_411 : decode cL_act 411 = .ok (.newarray .int, 2) := by decide +kernel
theorem dL_act_413 : decode cL_act 413 = .ok (.astore 7, 2) := by decide +kernel
theorem dL_act_415 : decode cL_act 415 = .ok (.iconst 0, 1) := by decide +kernel
theorem dL_act_416 : decode cL_act 416 = .ok (.istore 8, 2) := by decide +kernel
theorem dL_act_418 : decode cL_act 418 = .ok (.iload 8, 2) := by decide +kernel
theorem dL_act_420 : decode cL_act 420 = .ok (.aload_n 1, 1) := by decide +kernel
theorem dL_act_421 : decode cL_act 421 = .ok (.getfield 21, 3) := by decide +kernel
theorem dL_act_424 : decode cL_act 424 = .ok (.arraylength, 1) := by decide +kernel
theorem dL_act_425 : decode cL_act 425 = .ok (.if_icmp .ge 21, 3) := by decide +kernel
theorem dL_act_428 : decode cL_act 428 = .ok (.aload 7, 2) := by decide +kernel
theorem dL_act_430 : decode cL_act 430 = .ok (.iload 8, 2) := by decide +kernel
theorem dL_act_432 : decode cL_act 432 = .ok (.aload_n 1, 1) := by decide +kernel
theorem dL_act_433 : decode cL_act 433 = .ok (.getfield 21, 3) := by decide +kernel
theorem dL_act_436 : decode cL_act 436 = .ok (.iload 8, 2) := by decide +kernel
theorem dL_act_438 : decode cL_act 438 = .ok (.iaload, 1) := by decide +kernel
theorem dL_act_439 : decode cL_act 439 = .ok (.iastore, 1) := by decide +kernel
theorem dL_act_440 : decode cL_act 440 = .ok (.iinc 8 1, 3) := by decide +kernel
theorem dL_act_443 : decode cL_act 443 = .ok (.goto (-25), 3) := by decide +kernel
theorem dL_act_446 : decode cL_act 446 = .ok (.aload 7, 2) := by decide +kernel
theorem dL_act_448 : decode cL_act 448 = .ok (.aload_n 1, 1) := by decide +kernel
theorem dL_act_449 : decode cL_act 449 = .ok (.getfield 21, 3) := by decide +kernel
theorem dL_act_452 : decode cL_act 452 = .ok (.arraylength, 1) := by decide +kernel
theorem dL_act_453 : decode cL_act 453 = .ok (.iconst 5, 1) := by decide +kernel
theorem dL_act_454 : decode cL_act 454 = .ok (.iastore, 1) := by decide +kernel
theorem dL_act_455 : decode cL_act 455 = .ok (.aload_n 1, 1) := by decide +kernel
theorem dL_act_456 : decode cL_act 456 = .ok (.aload 7, 2) := by decide +kernel
theorem dL_act_458 : decode cL_act 458 = .ok (.putfield 21, 3) := by decide +kernel
theorem dL_act_461 : decode cL_act 461 = .ok (.aload_n 0, 1) := by decide +kernel
theorem dL_act_462 : decode cL_act 462 = .ok (.invokevirtual 46, 3) := by decide +kernel
theorem dL_act_465 : decode cL_act 465 = .ok (.aload 7, 2) := by decide +kernel
theorem dL_act_467 : decode cL_act 467 = .ok (.arraylength, 1) := by decide +kernel
theorem dL_act_468 : decode cL_act 468 = .ok (.iconst 1, 1) := by decide +kernel
theorem dL_act_469 : decode cL_act 469 = .ok (.isub, 1) := by decide +kernel
theorem dL_act_470 : decode cL_act 470 = .ok (.if_icmp .ne 7, 3) := by decide +kernel
theorem dL_act_473 : decode cL_act 473 = .ok (.iconst 1, 1) := by decide +kernel
theorem dL_act_474 : decode cL_act 474 = .ok (.goto 4, 3) := by decide +kernel
theorem dL_act_477 : decode cL_act 477 = .ok (.iconst 0, 1) := by decide +kernel
theorem dL_act_478 : decode cL_act 478 = .ok (.ireturn, 1) := by decide +kernel
theorem dL_act_479 : decode cL_act 479 = .ok (.iconst 1, 1) := by decide +kernel
theorem dL_act_480 : decode cL_act 480 = .ok (.iload_n 2, 1) := by decide +kernel
theorem dL_act_481 : decode cL_act 481 = .ok (.bipush 7, 2) := by decide +kernel
theorem dL_act_483 : decode cL_act 483 = .ok (.ishr, 1) := by decide +kernel
theorem dL_act_484 : decode cL_act 484 = .ok (.iload_n 2, 1) := by decide +kernel
theorem dL_act_485 : decode cL_act 485 = .ok (.iconst 3, 1) := by decide +kernel
theorem dL_act_486 : decode cL_act 486 = .ok (.ishr, 1) := by decide +kernel
theorem dL_act_487 : decode cL_act 487 = .ok (.iconst 2, 1) := by decide +kernel
theorem dL_act_488 : decode cL_act 488 = .ok (.invokestatic 15, 3) := by decide +kernel
theorem dL_act_491 : decode cL_act 491 = .ok (.ifCond .ne 9, 3) := by decide +kernel
theorem dL_act_494 : decode cL_act 494 = .ok (.sipush 500, 3) := by decide +kernel
theorem dL_act_497 : decode cL_act 497 = .ok (.goto 5, 3) := by decide +kernel
theorem dL_act_500 : decode cL_act 500 = .ok (.bipush 40, 2) := by decide +kernel
theorem dL_act_502 : decode cL_act 502 = .ok (.invokestatic 15, 3) := by decide +kernel
theorem dL_act_505 : decode cL_act 505 = .ok (.iadd, 1) := by decide +kernel
theorem dL_act_506 : decode cL_act 506 = .ok (.istore 7, 2) := by decide +kernel
theorem dL_act_508 : decode cL_act 508 = .ok (.aload_n 1, 1) := by decide +kernel
theorem dL_act_509 : decode cL_act 509 = .ok (.dup, 1) := by decide +kernel
theorem dL_act_510 : decode cL_act 510 = .ok (.getfield 50, 3) := by decide +kernel
theorem dL_act_513 : decode cL_act 513 = .ok (.iload 7, 2) := by decide +kernel
theorem dL_act_515 : decode cL_act 515 = .ok (.iadd, 1) := by decide +kernel
theorem dL_act_516 : decode cL_act 516 = .ok (.putfield 50, 3) := by decide +kernel
theorem dL_act_519 : decode cL_act 519 = .ok (.aload_n 0, 1) := by decide +kernel
theorem dL_act_520 : decode cL_act 520 = .ok (.iload 7, 2) := by decide +kernel
theorem dL_act_522 : decode cL_act 522 = .ok (.invokevirtual 54, 3) := by decide +kernel
theorem dL_act_525 : decode cL_act 525 = .ok (.aload_n 1, 1) := by decide +kernel
theorem dL_act_526 : decode cL_act 526 = .ok (.getfield 50, 3) := by decide +kernel
theorem dL_act_529 : decode cL_act 529 = .ok (.if_icmp .ne 7, 3) := by decide +kernel
theorem dL_act_532 : decode cL_act 532 = .ok (.iconst 1, 1) := by decide +kernel
theorem dL_act_533 : decode cL_act 533 = .ok (.goto 4, 3) := by decide +kernel
theorem dL_act_536 : decode cL_act 536 = .ok (.iconst 0, 1) := by decide +kernel
theorem dL_act_537 : decode cL_act 537 = .ok (.ireturn, 1) := by decide +kernel
theorem dL_act_538 : decode cL_act 538 = .ok (.iload 6, 2) := by decide +kernel
theorem dL_act_540 : decode cL_act 540 = .ok (.ifCond .eq 11, 3) := by decide +kernel
theorem dL_act_543 : decode cL_act 543 = .ok (.aload_n 0, 1) := by decide +kernel
theorem dL_act_544 : decode cL_act 544 = .ok (.iload_n 3, 1) := by decide +kernel
theorem dL_act_545 : decode cL_act 545 = .ok (.invokevirtual 57, 3) := by decide +kernel
theorem dL_act_548 : decode cL_act 548 = .ok (.pop, 1) := by decide +kernel
theorem dL_act_549 : decode cL_act 549 = .ok (.iconst 0, 1) := by decide +kernel
theorem dL_act_550 : decode cL_act 550 = .ok (.ireturn, 1) := by decide +kernel
theorem dL_act_551 : decode cL_act 551 = .ok (.aload_n 1, 1) := by decide +kernel
theorem dL_act_552 : decode cL_act 552 = .ok (.getfield 9, 3) := by decide +kernel
theorem dL_act_555 : decode cL_act 555 = .ok (.iload_n 3, 1) := by decide +kernel
theorem dL_act_556 : decode cL_act 556 = .ok (.aaload, 1) := by decide +kernel
theorem dL_act_557 : decode cL_act 557 = .ok (.iconst 1, 1) := by decide +kernel
theorem dL_act_558 : decode cL_act 558 = .ok (.iconst 1, 1) := by decide +kernel
theorem dL_act_559 : decode cL_act 559 = .ok (.iastore, 1) := by decide +kernel
theorem dL_act_560 : decode cL_act 560 = .ok (.aload_n 1, 1) := by decide +kernel
theorem dL_act_561 : decode cL_act 561 = .ok (.getfield 9, 3) := by decide +kernel
theorem dL_act_564 : decode cL_act 564 = .ok (.iload_n 3, 1) := by decide +kernel
theorem dL_act_565 : decode cL_act 565 = .ok (.aaload, 1) := by decide +kernel
theorem dL_act_566 : decode cL_act 566 = .ok (.iconst 2, 1) := by decide +kernel
theorem dL_act_567 : decode cL_act 567 = .ok (.iconst 0, 1) := by decide +kernel
theorem dL_act_568 : decode cL_act 568 = .ok (.iastore, 1) := by decide +kernel
theorem dL_act_569 : decode cL_act 569 = .ok (.iconst 0, 1) := by decide +kernel
theorem dL_act_570 : decode cL_act 570 = .ok (.istore 7, 2) := by decide +kernel
theorem dL_act_572 : decode cL_act 572 = .ok (.aload_n 1, 1) := by decide +kernel
theorem dL_act_573 : decode cL_act 573 = .ok (.getfield 25, 3) := by decide +kernel
theorem dL_act_576 : decode cL_act 576 = .ok (.astore 8, 2) := by decide +kernel
theorem dL_act_578 : decode cL_act 578 = .ok (.aload 8, 2) := by decide +kernel
theorem dL_act_580 : decode cL_act 580 = .ok (.arraylength, 1) := by decide +kernel
theorem dL_act_581 : decode cL_act 581 = .ok (.istore 9, 2) := by decide +kernel
theorem dL_act_583 : decode cL_act 583 = .ok (.iconst 0, 1) := by decide +kernel
theorem dL_act_584 : decode cL_act 584 = .ok (.istore 10, 2) := by decide +kernel
theorem dL_act_586 : decode cL_act 586 = .ok (.iload 10, 2) := by decide +kernel
theorem dL_act_588 : decode cL_act 588 = .ok (.iload 9, 2) := by decide +kernel
theorem dL_act_590 : decode cL_act 590 = .ok (.if_icmp .ge 51, 3) := by decide +kernel
theorem dL_act_593 : decode cL_act 593 = .ok (.aload 8, 2) := by decide +kernel
theorem dL_act_595 : decode cL_act 595 = .ok (.iload 10, 2) := by decide +kernel
theorem dL_act_597 : decode cL_act 597 = .ok (.aaload, 1) := by decide +kernel
theorem dL_act_598 : decode cL_act 598 = .ok (.astore 11, 2) := by decide +kernel
theorem dL_act_600 : decode cL_act 600 = .ok (.aload 11, 2) := by decide +kernel
theorem dL_act_602 : decode cL_act 602 = .ok (.iconst 0, 1) := by decide +kernel
theorem dL_act_603 : decode cL_act 603 = .ok (.iaload, 1) := by decide +kernel
theorem dL_act_604 : decode cL_act 604 = .ok (.iload_n 3, 1) := by decide +kernel
theorem dL_act_605 : decode cL_act 605 = .ok (.if_icmp .eq 6, 3) := by decide +kernel
theorem dL_act_608 : decode cL_act 608 = .ok (.goto 27, 3) := by decide +kernel
theorem dL_act_611 : decode cL_act 611 = .ok (.aload 11, 2) := by decide +kernel
theorem dL_act_613 : decode cL_act 613 = .ok (.iconst 3, 1) := by decide +kernel
theorem dL_act_614 : decode cL_act 614 = .ok (.iconst 0, 1) := by decide +kernel
theorem dL_act_615 : decode cL_act 615 = .ok (.iastore, 1) := by decide +kernel
theorem dL_act_616 : decode cL_act 616 = .ok (.iload 7, 2) := by decide +kernel
theorem dL_act_618 : decode cL_act 618 = .ok (.aload_n 1, 1) := by decide +kernel
theorem dL_act_619 : decode cL_act 619 = .ok (.aload 11, 2) := by decide +kernel
theorem dL_act_621 : decode cL_act 621 = .ok (.invokevirtual 60, 3) := by decide +kernel
theorem dL_act_624 : decode cL_act 624 = .ok (.ifCond .eq 7, 3) := by decide +kernel
theorem dL_act_627 : decode cL_act 627 = .ok (.iconst 1, 1) := by decide +kernel
theorem dL_act_628 : decode cL_act 628 = .ok (.goto 4, 3) := by decide +kernel
theorem dL_act_631 : decode cL_act 631 = .ok (.iconst 0, 1) := by decide +kernel
theorem dL_act_632 : decode cL_act 632 = .ok (.iadd, 1) := by decide +kernel
theorem dL_act_633 : decode cL_act 633 = .ok (.istore 7, 2) := by decide +kernel
theorem dL_act_635 : decode cL_act 635 = .ok (.iinc 10 1, 3) := by decide +kernel
theorem dL_act_638 : decode cL_act 638 = .ok (.goto (-52), 3) := by decide +kernel
theorem dL_act_641 : decode cL_act 641 = .ok (.aload_n 0, 1) := by decide +kernel
theorem dL_act_642 : decode cL_act 642 = .ok (.iload_n 3, 1) := by decide +kernel
theorem dL_act_643 : decode cL_act 643 = .ok (.invokevirtual 57, 3) := by decide +kernel
theorem dL_act_646 : decode cL_act 646 = .ok (.iload 7, 2) := by decide +kernel
theorem dL_act_648 : decode cL_act 648 = .ok (.if_icmp .ne 7, 3) := by decide +kernel
theorem dL_act_651 : decode cL_act 651 = .ok (.iconst 1, 1) := by decide +kernel
theorem dL_act_652 : decode cL_act 652 = .ok (.goto 4, 3) := by decide +kernel
theorem dL_act_655 : decode cL_act 655 = .ok (.iconst 0, 1) := by decide +kernel
theorem dL_act_656 : decode cL_act 656 = .ok (.ireturn, 1) := by decide +kernel
theorem dL_act_657 : decode cL_act 657 = .ok (.iload 6, 2) := by decide +kernel
theorem dL_act_659 : decode cL_act 659 = .ok (.ifCond .eq 11, 3) := by decide +kernel
theorem dL_act_662 : decode cL_act 662 = .ok (.aload_n 0, 1) := by decide +kernel
theorem dL_act_663 : decode cL_act 663 = .ok (.iload_n 3, 1) := by decide +kernel
theorem dL_act_664 : decode cL_act 664 = .ok (.invokevirtual 64, 3) := by decide +kernel
theorem dL_act_667 : decode cL_act 667 = .ok (.pop, 1) := by decide +kernel
theorem dL_act_668 : decode cL_act 668 = .ok (.iconst 0, 1) := by decide +kernel
theorem dL_act_669 : decode cL_act 669 = .ok (.ireturn, 1) := by decide +kernel
theorem dL_act_670 : decode cL_act 670 = .ok (.aload_n 1, 1) := by decide +kernel
theorem dL_act_671 : decode cL_act 671 = .ok (.getfield 67, 3) := by decide +kernel
theorem dL_act_674 : decode cL_act 674 = .ok (.astore 7, 2) := by decide +kernel
theorem dL_act_676 : decode cL_act 676 = .ok (.aload 7, 2) := by decide +kernel
theorem dL_act_678 : decode cL_act 678 = .ok (.arraylength, 1) := by decide +kernel
theorem dL_act_679 : decode cL_act 679 = .ok (.istore 8, 2) := by decide +kernel
theorem dL_act_681 : decode cL_act 681 = .ok (.iconst 0, 1) := by decide +kernel
theorem dL_act_682 : decode cL_act 682 = .ok (.istore 9, 2) := by decide +kernel
theorem dL_act_684 : decode cL_act 684 = .ok (.iload 9, 2) := by decide +kernel
theorem dL_act_686 : decode cL_act 686 = .ok (.iload 8, 2) := by decide +kernel
theorem dL_act_688 : decode cL_act 688 = .ok (.if_icmp .ge 51, 3) := by decide +kernel
theorem dL_act_691 : decode cL_act 691 = .ok (.aload 7, 2) := by decide +kernel
theorem dL_act_693 : decode cL_act 693 = .ok (.iload 9, 2) := by decide +kernel
theorem dL_act_695 : decode cL_act 695 = .ok (.aaload, 1) := by decide +kernel
theorem dL_act_696 : decode cL_act 696 = .ok (.astore 10, 2) := by decide +kernel
theorem dL_act_698 : decode cL_act 698 = .ok (.aload 10, 2) := by decide +kernel
theorem dL_act_700 : decode cL_act 700 = .ok (.iconst 1, 1) := by decide +kernel
theorem dL_act_701 : decode cL_act 701 = .ok (.iaload, 1) := by decide +kernel
theorem dL_act_702 : decode cL_act 702 = .ok (.iload_n 3, 1) := by decide +kernel
theorem dL_act_703 : decode cL_act 703 = .ok (.if_icmp .ne 30, 3) := by decide +kernel
theorem dL_act_706 : decode cL_act 706 = .ok (.aload_n 1, 1) := by decide +kernel
theorem dL_act_707 : decode cL_act 707 = .ok (.getfield 21, 3) := by decide +kernel
theorem dL_act_710 : decode cL_act 710 = .ok (.aload 10, 2) := by decide +kernel
theorem dL_act_712 : decode cL_act 712 = .ok (.iconst 0, 1) := by decide +kernel
theorem dL_act_713 : decode cL_act 713 = .ok (.iaload, 1) := by decide +kernel
theorem dL_act_714 : decode cL_act 714 = .ok (.iaload, 1) := by decide +kernel
theorem dL_act_715 : decode cL_act 715 = .ok (.bipush 9, 2) := by decide +kernel
theorem dL_act_717 : decode cL_act 717 = .ok (.if_icmp .ge 16, 3) := by decide +kernel
theorem dL_act_720 : decode cL_act 720 = .ok (.aload_n 1, 1) := by decide +kernel
theorem dL_act_721 : decode cL_act 721 = .ok (.getfield 21, 3) := by decide +kernel
theorem dL_act_724 : decode cL_act 724 = .ok (.aload 10, 2) := by decide +kernel
theorem dL_act_726 : decode cL_act 726 = .ok (.iconst 0, 1) := by decide +kernel
theorem dL_act_727 : decode cL_act 727 = .ok (.iaload, 1) := by decide +kernel
theorem dL_act_728 : decode cL_act 728 = .ok (.dup2, 1) := by decide +kernel
theorem dL_act_729 : decode cL_act 729 = .ok (.iaload, 1) := by decide +kernel
theorem dL_act_730 : decode cL_act 730 = .ok (.iconst 1, 1) := by decide +kernel
theorem dL_act_731 : decode cL_act 731 = .ok (.iadd, 1) := by decide +kernel
theorem dL_act_732 : decode cL_act 732 = .ok (.iastore, 1) := by decide +kernel
theorem dL_act_733 : decode cL_act 733 = .ok (.iinc 9 1, 3) := by decide +kernel
theorem dL_act_736 : decode cL_act 736 = .ok (.goto (-52), 3) := by decide +kernel
theorem dL_act_739 : decode cL_act 739 = .ok (.aload_n 1, 1) := by decide +kernel
theorem dL_act_740 : decode cL_act 740 = .ok (.iload_n 3, 1) := by decide +kernel
theorem dL_act_741 : decode cL_act 741 = .ok (.invokevirtual 70, 3) := by decide +kernel
theorem dL_act_744 : decode cL_act 744 = .ok (.aload_n 1, 1) := by decide +kernel
theorem dL_act_745 : decode cL_act 745 = .ok (.getfield 9, 3) := by decide +kernel
theorem dL_act_748 : decode cL_act 748 = .ok (.iload_n 3, 1) := by decide +kernel
theorem dL_act_749 : decode cL_act 749 = .ok (.aaload, 1) := by decide +kernel
theorem dL_act_750 : decode cL_act 750 = .ok (.iconst 1, 1) := by decide +kernel
theorem dL_act_751 : decode cL_act 751 = .ok (.iconst 0, 1) := by decide +kernel
theorem dL_act_752 : decode cL_act 752 = .ok (.iastore, 1) := by decide +kernel
theorem dL_act_753 : decode cL_act 753 = .ok (.aload_n 0, 1) := by decide +kernel
theorem dL_act_754 : decode cL_act 754 = .ok (.iload_n 3, 1) := by decide +kernel
theorem dL_act_755 : decode cL_act 755 = .ok (.invokevirtual 64, 3) := by decide +kernel
theorem dL_act_758 : decode cL_act 758 = .ok (.aload_n 1, 1) := by decide +kernel
theorem dL_act_759 : decode cL_act 759 = .ok (.getfield 9, 3) := by decide +kernel
theorem dL_act_762 : decode cL_act 762 = .ok (.iload_n 3, 1) := by decide +kernel
theorem dL_act_763 : decode cL_act 763 = .ok (.aaload, 1) := by decide +kernel
theorem dL_act_764 : decode cL_act 764 = .ok (.iconst 2, 1) := by decide +kernel
theorem dL_act_765 : decode cL_act 765 = .ok (.iaload, 1) := by decide +kernel
theorem dL_act_766 : decode cL_act 766 = .ok (.if_icmp .ne 7, 3) := by decide +kernel
theorem dL_act_769 : decode cL_act 769 = .ok (.iconst 1, 1) := by decide +kernel
theorem dL_act_770 : decode cL_act 770 = .ok (.goto 4, 3) := by decide +kernel
theorem dL_act_773 : decode cL_act 773 = .ok (.iconst 0, 1) := by decide +kernel
theorem dL_act_774 : decode cL_act 774 = .ok (.ireturn, 1) := by decide +kernel
theorem dL_act_775 : decode cL_act 775 = .ok (.aload_n 1, 1) := by decide +kernel
theorem dL_act_776 : decode cL_act 776 = .ok (.getfield 21, 3) := by decide +kernel
theorem dL_act_779 : decode cL_act 779 = .ok (.arraylength, 1) := by decide +kernel
theorem dL_act_780 : decode cL_act 780 = .ok (.ifCond .ne 5, 3) := by decide +kernel
theorem dL_act_783 : decode cL_act 783 = .ok (.iconst 1, 1) := by decide +kernel
theorem dL_act_784 : decode cL_act 784 = .ok (.ireturn, 1) := by decide +kernel
theorem dL_act_785 : decode cL_act 785 = .ok (.iload 6, 2) := by decide +kernel
theorem dL_act_787 : decode cL_act 787 = .ok (.ifCond .eq 13, 3) := by decide +kernel
theorem dL_act_790 : decode cL_act 790 = .ok (.aload_n 0, 1) := by decide +kernel
theorem dL_act_791 : decode cL_act 791 = .ok (.iload 4, 2) := by decide +kernel
theorem dL_act_793 : decode cL_act 793 = .ok (.iload_n 3, 1) := by decide +kernel
theorem dL_act_794 : decode cL_act 794 = .ok (.invokevirtual 74, 3) := by decide +kernel
theorem dL_act_797 : decode cL_act 797 = .ok (.pop, 1) := by decide +kernel
theorem dL_act_798 : decode cL_act 798 = .ok (.iconst 0, 1) := by decide +kernel
theorem dL_act_799 : decode cL_act 799 = .ok (.ireturn, 1) := by decide +kernel
theorem dL_act_800 : decode cL_act 800 = .ok (.aload_n 1, 1) := by decide +kernel
theorem dL_act_801 : decode cL_act 801 = .ok (.aload_n 1, 1) := by decide +kernel
theorem dL_act_802 : decode cL_act 802 = .ok (.getfield 67, 3) := by decide +kernel
theorem dL_act_805 : decode cL_act 805 = .ok (.iconst 3, 1) := by decide +kernel
theorem dL_act_806 : decode cL_act 806 = .ok (.newarray .int, 2) := by decide +kernel
theorem dL_act_808 : decode cL_act 808 = .ok (.dup, 1) := by decide +kernel
theorem dL_act_809 : decode cL_act 809 = .ok (.iconst 0, 1) := by decide +kernel
theorem dL_act_810 : decode cL_act 810 = .ok (.iload 4, 2) := by decide +kernel
theorem dL_act_812 : decode cL_act 812 = .ok (.iastore, 1) := by decide +kernel
theorem dL_act_813 : decode cL_act 813 = .ok (.dup, 1) := by decide +kernel
theorem dL_act_814 : decode cL_act 814 = .ok (.iconst 1, 1) := by decide +kernel
theorem dL_act_815 : decode cL_act 815 = .ok (.iload_n 3, 1) := by decide +kernel
theorem dL_act_816 : decode cL_act 816 = .ok (.iastore, 1) := by decide +kernel
theorem dL_act_817 : decode cL_act 817 = .ok (.dup, 1) := by decide +kernel
theorem dL_act_818 : decode cL_act 818 = .ok (.iconst 2, 1) := by decide +kernel
theorem dL_act_819 : decode cL_act 819 = .ok (.iconst 0, 1) := by decide +kernel
theorem dL_act_820 : decode cL_act 820 = .ok (.iastore, 1) := by decide +kernel
theorem dL_act_821 : decode cL_act 821 = .ok (.invokestatic 38, 3) := by decide +kernel
theorem dL_act_824 : decode cL_act 824 = .ok (.putfield 67, 3) := by decide +kernel
theorem dL_act_827 : decode cL_act 827 = .ok (.aload_n 1, 1) := by decide +kernel
theorem dL_act_828 : decode cL_act 828 = .ok (.iload_n 3, 1) := by decide +kernel
theorem dL_act_829 : decode cL_act 829 = .ok (.invokevirtual 78, 3) := by decide +kernel
theorem dL_act_832 : decode cL_act 832 = .ok (.iconst 5, 1) := by decide +kernel
theorem dL_act_833 : decode cL_act 833 = .ok (.if_icmp .le 12, 3) := by decide +kernel
theorem dL_act_836 : decode cL_act 836 = .ok (.aload_n 1, 1) := by decide +kernel
theorem dL_act_837 : decode cL_act 837 = .ok (.getfield 9, 3) := by decide +kernel
theorem dL_act_840 : decode cL_act 840 = .ok (.iload_n 3, 1) := by decide +kernel
theorem dL_act_841 : decode cL_act 841 = .ok (.aaload, 1) := by decide +kernel
theorem dL_act_842 : decode cL_act 842 = .ok (.iconst 3, 1) := by decide +kernel
theorem dL_act_843 : decode cL_act 843 = .ok (.iconst 1, 1) := by decide +kernel
theorem dL_act_844 : decode cL_act 844 = .ok (.iastore, 1) := by decide +kernel
theorem dL_act_845 : decode cL_act 845 = .ok (.aload_n 0, 1) := by decide +kernel
theorem dL_act_846 : decode cL_act 846 = .ok (.iload 4, 2) := by decide +kernel
theorem dL_act_848 : decode cL_act 848 = .ok (.iload_n 3, 1) := by decide +kernel
theorem dL_act_849 : decode cL_act 849 = .ok (.invokevirtual 74, 3) := by decide +kernel
theorem dL_act_852 : decode cL_act 852 = .ok (.aload_n 1, 1) := by decide +kernel
theorem dL_act_853 : decode cL_act 853 = .ok (.getfield 9, 3) := by decide +kernel
theorem dL_act_856 : decode cL_act 856 = .ok (.iload_n 3, 1) := by decide +kernel
theorem dL_act_857 : decode cL_act 857 = .ok (.aaload, 1) := by decide +kernel
theorem dL_act_858 : decode cL_act 858 = .ok (.iconst 3, 1) := by decide +kernel
theorem dL_act_859 : decode cL_act 859 = .ok (.iaload, 1) := by decide +kernel
theorem dL_act_860 : decode cL_act 860 = .ok (.iconst 1, 1) := by decide +kernel
theorem dL_act_861 : decode cL_act 861 = .ok (.if_icmp .ne 7, 3) := by decide +kernel
theorem dL_act_864 : decode cL_act 864 = .ok (.iconst 1, 1) := by decide +kernel
theorem dL_act_865 : decode cL_act 865 = .ok (.goto 4, 3) := by decide +kernel
theorem dL_act_868 : decode cL_act 868 = .ok (.iconst 0, 1) := by decide +kernel
theorem dL_act_869 : decode cL_act 869 = .ok (.if_icmp .ne 7, 3) := by decide +kernel
theorem dL_act_872 : decode cL_act 872 = .ok (.iconst 1, 1) := by decide +kernel
theorem dL_act_873 : decode cL_act 873 = .ok (.goto 4, 3) := by decide +kernel
theorem dL_act_876 : decode cL_act 876 = .ok (.iconst 0, 1) := by decide +kernel
theorem dL_act_877 : decode cL_act 877 = .ok (.ireturn, 1) := by decide +kernel
theorem dL_act_878 : decode cL_act 878 = .ok (.aload_n 1, 1) := by decide +kernel
theorem dL_act_879 : decode cL_act 879 = .ok (.getfield 25, 3) := by decide +kernel
theorem dL_act_882 : decode cL_act 882 = .ok (.arraylength, 1) := by decide +kernel
theorem dL_act_883 : decode cL_act 883 = .ok (.ifCond .ne 5, 3) := by decide +kernel
theorem dL_act_886 : decode cL_act 886 = .ok (.iconst 1, 1) := by decide +kernel
theorem dL_act_887 : decode cL_act 887 = .ok (.ireturn, 1) := by decide +kernel
theorem dL_act_888 : decode cL_act 888 = .ok (.aload_n 1, 1) := by decide +kernel
theorem dL_act_889 : decode cL_act 889 = .ok (.getfield 25, 3) := by decide +kernel
theorem dL_act_892 : decode cL_act 892 = .ok (.iload 5, 2) := by decide +kernel
theorem dL_act_894 : decode cL_act 894 = .ok (.aaload, 1) := by decide +kernel
theorem dL_act_895 : decode cL_act 895 = .ok (.astore 7, 2) := by decide +kernel
theorem dL_act_897 : decode cL_act 897 = .ok (.iload_n 2, 1) := by decide +kernel
theorem dL_act_898 : decode cL_act 898 = .ok (.bipush 9, 2) := by decide +kernel
theorem dL_act_900 : decode cL_act 900 = .ok (.ishr, 1) := by decide +kernel
theorem dL_act_901 : decode cL_act 901 = .ok (.iconst 4, 1) := by decide +kernel
theorem dL_act_902 : decode cL_act 902 = .ok (.invokestatic 15, 3) := by decide +kernel
theorem dL_act_905 : decode cL_act 905 = .ok (.ifCond .le 7, 3) := by decide +kernel
theorem dL_act_908 : decode cL_act 908 = .ok (.iconst 1, 1) := by decide +kernel
theorem dL_act_909 : decode cL_act 909 = .ok (.goto 4, 3) := by decide +kernel
theorem dL_act_912 : decode cL_act 912 = .ok (.iconst 0, 1) := by decide +kernel
theorem dL_act_913 : decode cL_act 913 = .ok (.istore 8, 2) := by decide +kernel
theorem dL_act_915 : decode cL_act 915 = .ok (.iload 6, 2) := by decide +kernel
theorem dL_act_917 : decode cL_act 917 = .ok (.ifCond .eq 14, 3) := by decide +kernel
theorem dL_act_920 : decode cL_act 920 = .ok (.aload_n 0, 1) := by decide +kernel
theorem dL_act_921 : decode cL_act 921 = .ok (.iload 5, 2) := by decide +kernel
theorem dL_act_923 : decode cL_act 923 = .ok (.iload 8, 2) := by decide +kernel
theorem dL_act_925 : decode cL_act 925 = .ok (.invokevirtual 81, 3) := by decide +kernel
theorem dL_act_928 : decode cL_act 928 = .ok (.pop, 1) := by decide +kernel
theorem dL_act_929 : decode cL_act 929 = .ok (.iconst 0, 1) := by decide +kernel
theorem dL_act_930 : decode cL_act 930 = .ok (.ireturn, 1) := by decide +kernel
theorem dL_act_931 : decode cL_act 931 = .ok (.aload 7, 2) := by decide +kernel
theorem dL_act_933 : decode cL_act 933 = .ok (.iconst 3, 1) := by decide +kernel
theorem dL_act_934 : decode cL_act 934 = .ok (.iload 8, 2) := by decide +kernel
theorem dL_act_936 : decode cL_act 936 = .ok (.ifCond .eq 7, 3) := by decide +kernel
theorem dL_act_939 : decode cL_act 939 = .ok (.iconst 1, 1) := by decide +kernel
theorem dL_act_940 : decode cL_act 940 = .ok (.goto 4, 3) := by decide +kernel
theorem dL_act_943 : decode cL_act 943 = .ok (.iconst 0, 1) := by decide +kernel
theorem dL_act_944 : decode cL_act 944 = .ok (.iastore, 1) := by decide +kernel
theorem dL_act_945 : decode cL_act 945 = .ok (.aload_n 0, 1) := by decide +kernel
theorem dL_act_946 : decode cL_act 946 = .ok (.iload 5, 2) := by decide +kernel
theorem dL_act_948 : decode cL_act 948 = .ok (.iload 8, 2) := by decide +kernel
theorem dL_act_950 : decode cL_act 950 = .ok (.invokevirtual 81, 3) := by decide +kernel
theorem dL_act_953 : decode cL_act 953 = .ok (.aload_n 1, 1) := by decide +kernel
theorem dL_act_954 : decode cL_act 954 = .ok (.aload 7, 2) := by decide +kernel
theorem dL_act_956 : decode cL_act 956 = .ok (.iconst 0, 1) := by decide +kernel
theorem dL_act_957 : decode cL_act 957 = .ok (.iaload, 1) := by decide +kernel
theorem dL_act_958 : decode cL_act 958 = .ok (.iconst 1, 1) := by decide +kernel
theorem dL_act_959 : decode cL_act 959 = .ok (.invokevirtual 85, 3) := by decide +kernel
theorem dL_act_962 : decode cL_act 962 = .ok (.if_icmp .ne 7, 3) := by decide +kernel
theorem dL_act_965 : decode cL_act 965 = .ok (.iconst 1, 1) := by decide +kernel
theorem dL_act_966 : decode cL_act 966 = .ok (.goto 4, 3) := by decide +kernel
theorem dL_act_969 : decode cL_act 969 = .ok (.iconst 0, 1) := by decide +kernel
theorem dL_act_970 : decode cL_act 970 = .ok (.ireturn, 1) := by decide +kernel
theorem dL_act_971 : decode cL_act 971 = .ok (.iconst 1, 1) := by decide +kernel
theorem dL_act_972 : decode cL_act 972 = .ok (.iload_n 2, 1) := by decide +kernel
theorem dL_act_973 : decode cL_act 973 = .ok (.bipush 7, 2) := by decide +kernel
theorem dL_act_975 : decode cL_act 975 = .ok (.ishr, 1) := by decide +kernel
theorem dL_act_976 : decode cL_act 976 = .ok (.iload_n 2, 1) := by decide +kernel
theorem dL_act_977 : decode cL_act 977 = .ok (.iconst 3, 1) := by decide +kernel
theorem dL_act_978 : decode cL_act 978 = .ok (.ishr, 1) := by decide +kernel
theorem dL_act_979 : decode cL_act 979 = .ok (.iconst 5, 1) := by decide +kernel
theorem dL_act_980 : decode cL_act 980 = .ok (.invokestatic 15, 3) := by decide +kernel
theorem dL_act_983 : decode cL_act 983 = .ok (.ifCond .ne 8, 3) := by decide +kernel
theorem dL_act_986 : decode cL_act 986 = .ok (.bipush 30, 2) := by decide +kernel
theorem dL_act_988 : decode cL_act 988 = .ok (.goto 4, 3) := by decide +kernel
theorem dL_act_991 : decode cL_act 991 = .ok (.iconst 4, 1) := by decide +kernel
theorem dL_act_992 : decode cL_act 992 = .ok (.invokestatic 15, 3) := by decide +kernel
theorem dL_act_995 : decode cL_act 995 = .ok (.iadd, 1) := by decide +kernel
theorem dL_act_996 : decode cL_act 996 = .ok (.istore 7, 2) := by decide +kernel
theorem dL_act_998 : decode cL_act 998 = .ok (.iconst 0, 1) := by decide +kernel
theorem dL_act_999 : decode cL_act 999 = .ok (.istore 8, 2) := by decide +kernel
theorem dL_act_1001 : decode cL_act 1001 = .ok (.iconst 0, 1) := by decide +kernel
theorem dL_act_1002 : decode cL_act 1002 = .ok (.istore 9, 2) := by decide +kernel
theorem dL_act_1004 : decode cL_act 1004 = .ok (.iload 9, 2) := by decide +kernel
theorem dL_act_1006 : decode cL_act 1006 = .ok (.iload 7, 2) := by decide +kernel
theorem dL_act_1008 : decode cL_act 1008 = .ok (.if_icmp .ge 18, 3) := by decide +kernel
theorem dL_act_1011 : decode cL_act 1011 = .ok (.iload 8, 2) := by decide +kernel
theorem dL_act_1013 : decode cL_act 1013 = .ok (.aload_n 1, 1) := by decide +kernel
theorem dL_act_1014 : decode cL_act 1014 = .ok (.invokevirtual 88, 3) := by decide +kernel
theorem dL_act_1017 : decode cL_act 1017 = .ok (.iadd, 1) := by decide +kernel
theorem dL_act_1018 : decode cL_act 1018 = .ok (.istore 8, 2) := by decide +kernel
theorem dL_act_1020 : decode cL_act 1020 = .ok (.iinc 9 1, 3) := by decide +kernel
theorem dL_act_1023 : decode cL_act 1023 = .ok (.goto (-19), 3) := by decide +kernel
theorem dL_act_1026 : decode cL_act 1026 = .ok (.aload_n 0, 1) := by decide +kernel
theorem dL_act_1027 : decode cL_act 1027 = .ok (.iload 7, 2) := by decide +kernel
theorem dL_act_1029 : decode cL_act 1029 = .ok (.invokevirtual 91, 3) := by decide +kernel
theorem dL_act_1032 : decode cL_act 1032 = .ok (.iload 8, 2) := by decide +kernel
theorem dL_act_1034 : decode cL_act 1034 = .ok (.if_icmp .ne 7, 3) := by decide +kernel
theorem dL_act_1037 : decode cL_act 1037 = .ok (.iconst 1, 1) := by decide +kernel
theorem dL_act_1038 : decode cL_act 1038 = .ok (.goto 4, 3) := by decide +kernel
theorem dL_act_1041 : decode cL_act 1041 = .ok (.iconst 0, 1) := by decide +kernel
theorem dL_act_1042 : decode cL_act 1042 = .ok (.ireturn, 1) := by decide +kernel
theorem dL_act_1043 : decode cL_act 1043 = .ok (.astore 7, 2) := by decide +kernel
theorem dL_act_1045 : decode cL_act 1045 = .ok (.iload 6, 2) := by decide +kernel
theorem dL_act_1047 : decode cL_act 1047 = .ok (.ireturn, 1) := by decide +kernel
set_option maxRecDepth 20000 in
theorem ggL_refused_L_below : GoodIn wsL_refused wsL_below := goodIn_r _ [7, 8] (by decide +kernel) (by decide +kernel)
set_option maxRecDepth 20000 in
theorem gL_refused_L_below : GoodIn wsL_refused (va_wsS RL 15 yL_below wsL_below) := goodIn_app (goodIn_of _ (by decide +kernel)) ggL_refused_L_below
set_option maxRecDepth 20000 in
theorem ggL_refused_X3_isSighted : GoodIn wsL_refused wsX3_isSighted := goodIn_r _ [13, 14, 15, 16, 17, 18, 19, 20, 21] (by decide +kernel) (by decide +kernel)
set_option maxRecDepth 20000 in
theorem gL_refused_X3_isSighted : GoodIn wsL_refused (wsV RL 96 RX3 yX3_isSighted wsX3_isSighted) := goodIn_app (goodIn_of _ (by decide +kernel)) ggL_refused_X3_isSighted
theorem dL_refused_0 : decode cL_refused 0 = .ok (.iload_n 1, 1) := by decide +kernel
theorem dL_refused_1 : decode cL_refused 1 = .ok (.bipush 18, 2) := by decide +kernel
theorem dL_refused_3 : decode cL_refused 3 = .ok (.invokestatic 15, 3) := by decide +kernel
theorem dL_refused_6 : decode cL_refused 6 = .ok (.tableswitch 234 0 13 #[70, 85, 85, 112, 234, 127, 127, 144, 161, 161, 161, 188, 188, 188], 70) := by decide +kernel
theorem dL_refused_76 : decode cL_refused 76 = .ok (.aload_n 0, 1) := by decide +kernel
theorem dL_refused_77 : decode cL_refused 77 = .ok (.getfield 9, 3) := by decide +kernel
theorem dL_refused_80 : decode cL_refused 80 = .ok (.arraylength, 1) := by decide +kernel
theorem dL_refused_81 : decode cL_refused 81 = .ok (.iconst 5, 1) := by decide +kernel
theorem dL_refused_82 : decode cL_refused 82 = .ok (.if_icmp .ne 7, 3) := by decide +kernel
theorem dL_refused_85 : decode cL_refused 85 = .ok (.iconst 1, 1) := by decide +kernel
theorem dL_refused_86 : decode cL_refused 86 = .ok (.goto 4, 3) := by decide +kernel
theorem dL_refused_89 : decode cL_refused 89 = .ok (.iconst 0, 1) := by decide +kernel
theorem dL_refused_90 : decode cL_refused 90 = .ok (.ireturn, 1) := by decide +kernel
theorem dL_refused_91 : decode cL_refused 91 = .ok (.aload_n 0, 1) := by decide +kernel
theorem dL_refused_92 : decode cL_refused 92 = .ok (.getfield 9, 3) := by decide +kernel
theorem dL_refused_95 : decode cL_refused 95 = .ok (.iload_n 2, 1) := by decide +kernel
theorem dL_refused_96 : decode cL_refused 96 = .ok (.aaload, 1) := by decide +kernel
theorem dL_refused_97 : decode cL_refused 97 = .ok (.iconst 1, 1) := by decide +kernel
theorem dL_refused_98 : decode cL_refused 98 = .ok (.iaload, 1) := by decide +kernel
theorem dL_refused_99 : decode cL_refused 99 = .ok (.ifCond .gt 13, 3) := by decide +kernel
theorem dL_refused_102 : decode cL_refused 102 = .ok (.aload_n 0, 1) := by decide +kernel
theorem dL_refused_103 : decode cL_refused 103 = .ok (.getfield 25, 3) := by decide +kernel
theorem dL_refused_106 : decode cL_refused 106 = .ok (.arraylength, 1) := by decide +kernel
theorem dL_refused_107 : decode cL_refused 107 = .ok (.bipush 16, 2) := by decide +kernel
theorem dL_refused_109 : decode cL_refused 109 = .ok (.if_icmp .ne 7, 3) := by decide +kernel
theorem dL_refused_112 : decode cL_refused 112 = .ok (.iconst 1, 1) := by decide +kernel
theorem dL_refused_113 : decode cL_refused 113 = .ok (.goto 4, 3) := by decide +kernel
theorem dL_refused_116 : decode cL_refused 116 = .ok (.iconst 0, 1) := by decide +kernel
theorem dL_refused_117 : decode cL_refused 117 = .ok (.ireturn, 1) := by decide +kernel
theorem dL_refused_118 : decode cL_refused 118 = .ok (.aload_n 0, 1) := by decide +kernel
theorem dL_refused_119 : decode cL_refused 119 = .ok (.getfield 21, 3) := by decide +kernel
theorem dL_refused_122 : decode cL_refused 122 = .ok (.arraylength, 1) := by decide +kernel
theorem dL_refused_123 : decode cL_refused 123 = .ok (.iconst 4, 1) := by decide +kernel
theorem dL_refused_124 : decode cL_refused 124 = .ok (.if_icmp .ne 7, 3) := by decide +kernel
theorem dL_refused_127 : decode cL_refused 127 = .ok (.iconst 1, 1) := by decide +kernel
theorem dL_refused_128 : decode cL_refused 128 = .ok (.goto 4, 3) := by decide +kernel
theorem dL_refused_131 : decode cL_refused 131 = .ok (.iconst 0, 1) := by decide +kernel
theorem dL_refused_132 : decode cL_refused 132 = .ok (.ireturn, 1) := by decide +kernel
theorem dL_refused_133 : decode cL_refused 133 = .ok (.aload_n 0, 1) := by decide +kernel
theorem dL_refused_134 : decode cL_refused 134 = .ok (.getfield 9, 3) := by decide +kernel
theorem dL_refused_137 : decode cL_refused 137 = .ok (.iload_n 2, 1) := by decide +kernel
theorem dL_refused_138 : decode cL_refused 138 = .ok (.aaload, 1) := by decide +kernel
theorem dL_refused_139 : decode cL_refused 139 = .ok (.iconst 1, 1) := by decide +kernel
theorem dL_refused_140 : decode cL_refused 140 = .ok (.iaload, 1) := by decide +kernel
theorem dL_refused_141 : decode cL_refused 141 = .ok (.ifCond .le 7, 3) := by decide +kernel
theorem dL_refused_144 : decode cL_refused 144 = .ok (.iconst 1, 1) := by decide +kernel
theorem dL_refused_145 : decode cL_refused 145 = .ok (.goto 4, 3) := by decide +kernel
theorem dL_refused_148 : decode cL_refused 148 = .ok (.iconst 0, 1) := by decide +kernel
theorem dL_refused_149 : decode cL_refused 149 = .ok (.ireturn, 1) := by decide +kernel
theorem dL_refused_150 : decode cL_refused 150 = .ok (.aload_n 0, 1) := by decide +kernel
theorem dL_refused_151 : decode cL_refused 151 = .ok (.getfield 9, 3) := by decide +kernel
theorem dL_refused_154 : decode cL_refused 154 = .ok (.iload_n 2, 1) := by decide +kernel
theorem dL_refused_155 : decode cL_refused 155 = .ok (.aaload, 1) := by decide +kernel
theorem dL_refused_156 : decode cL_refused 156 = .ok (.iconst 1, 1) := by decide +kernel
theorem dL_refused_157 : decode cL_refused 157 = .ok (.iaload, 1) := by decide +kernel
theorem dL_refused_158 : decode cL_refused 158 = .ok (.ifCond .ne 7, 3) := by decide +kernel
theorem dL_refused_161 : decode cL_refused 161 = .ok (.iconst 1, 1) := by decide +kernel
theorem dL_refused_162 : decode cL_refused 162 = .ok (.goto 4, 3) := by decide +kernel
theorem dL_refused_165 : decode cL_refused 165 = .ok (.iconst 0, 1) := by decide +kernel
theorem dL_refused_166 : decode cL_refused 166 = .ok (.ireturn, 1) := by decide +kernel
theorem dL_refused_167 : decode cL_refused 167 = .ok (.aload_n 0, 1) := by decide +kernel
theorem dL_refused_168 : decode cL_refused 168 = .ok (.getfield 9, 3) := by decide +kernel
theorem dL_refused_171 : decode cL_refused 171 = .ok (.iload_n 2, 1) := by decide +kernel
theorem dL_refused_172 : decode cL_refused 172 = .ok (.aaload, 1) := by decide +kernel
theorem dL_refused_173 : decode cL_refused 173 = .ok (.iconst 1, 1) := by decide +kernel
theorem dL_refused_174 : decode cL_refused 174 = .ok (.iaload, 1) := by decide +kernel
theorem dL_refused_175 : decode cL_refused 175 = .ok (.iconst 1, 1) := by decide +kernel
theorem dL_refused_176 : decode cL_refused 176 = .ok (.if_icmp .ne 12, 3) := by decide +kernel
theorem dL_refused_179 : decode cL_refused 179 = .ok (.aload_n 0, 1) := by decide +kernel
theorem dL_refused_180 : decode cL_refused 180 = .ok (.iload_n 3, 1) := by decide +kernel
theorem dL_refused_181 : decode cL_refused 181 = .ok (.iload_n 2, 1) := by decide +kernel
theorem dL_refused_182 : decode cL_refused 182 = .ok (.invokevirtual 96, 3) := by decide +kernel
theorem dL_refused_185 : decode cL_refused 185 = .ok (.ifCond .eq 7, 3) := by decide +kernel
theorem dL_refused_188 : decode cL_refused 188 = .ok (.iconst 1, 1) := by decide +kernel
theorem dL_refused_189 : decode cL_refused 189 = .ok (.goto 4, 3) := by decide +kernel
theorem dL_refused_192 : decode cL_refused 192 = .ok (.iconst 0, 1) := by decide +kernel
theorem dL_refused_193 : decode cL_refused 193 = .ok (.ireturn, 1) := by decide +kernel
theorem dL_refused_194 : decode cL_refused 194 = .ok (.aload_n 0, 1) := by decide +kernel
theorem dL_refused_195 : decode cL_refused 195 = .ok (.getfield 25, 3) := by decide +kernel
theorem dL_refused_198 : decode cL_refused 198 = .ok (.arraylength, 1) := by decide +kernel
theorem dL_refused_199 : decode cL_refused 199 = .ok (.ifCond .le 39, 3) := by decide +kernel
theorem dL_refused_202 : decode cL_refused 202 = .ok (.aload_n 0, 1) := by decide +kernel
theorem dL_refused_203 : decode cL_refused 203 = .ok (.getfield 25, 3) := by decide +kernel
theorem dL_refused_206 : decode cL_refused 206 = .ok (.iload 4, 2) := by decide +kernel
theorem dL_refused_208 : decode cL_refused 208 = .ok (.aaload, 1) := by decide +kernel
theorem dL_refused_209 : decode cL_refused 209 = .ok (.iconst 2, 1) := by decide +kernel
theorem dL_refused_210 : decode cL_refused 210 = .ok (.iaload, 1) := by decide +kernel
theorem dL_refused_211 : decode cL_refused 211 = .ok (.ifCond .eq 23, 3) := by decide +kernel
theorem dL_refused_214 : decode cL_refused 214 = .ok (.aload_n 0, 1) := by decide +kernel
theorem dL_refused_215 : decode cL_refused 215 = .ok (.getfield 9, 3) := by decide +kernel
theorem dL_refused_218 : decode cL_refused 218 = .ok (.aload_n 0, 1) := by decide +kernel
theorem dL_refused_219 : decode cL_refused 219 = .ok (.getfield 25, 3) := by decide +kernel
theorem dL_refused_222 : decode cL_refused 222 = .ok (.iload 4, 2) := by decide +kernel
theorem dL_refused_224 : decode cL_refused 224 = .ok (.aaload, 1) := by decide +kernel
theorem dL_refused_225 : decode cL_refused 225 = .ok (.iconst 0, 1) := by decide +kernel
theorem dL_refused_226 : decode cL_refused 226 = .ok (.iaload, 1) := by decide +kernel
theorem dL_refused_227 : decode cL_refused 227 = .ok (.aaload, 1) := by decide +kernel
theorem dL_refused_228 : decode cL_refused 228 = .ok (.iconst 1, 1) := by decide +kernel
theorem dL_refused_229 : decode cL_refused 229 = .ok (.iaload, 1) := by decide +kernel
theorem dL_refused_230 : decode cL_refused 230 = .ok (.iconst 1, 1) := by decide +kernel
theorem dL_refused_231 : decode cL_refused 231 = .ok (.if_icmp .eq 7, 3) := by decide +kernel
theorem dL_refused_234 : decode cL_refused 234 = .ok (.iconst 1, 1) := by decide +kernel
theorem dL_refused_235 : decode cL_refused 235 = .ok (.goto 4, 3) := by decide +kernel
theorem dL_refused_238 : decode cL_refused 238 = .ok (.iconst 0, 1) := by decide +kernel
theorem dL_refused_239 : decode cL_refused 239 = .ok (.ireturn, 1) := by decide +kernel
theorem dL_refused_240 : decode cL_refused 240 = .ok (.iconst 0, 1) := by decide +kernel
theorem dL_refused_241 : decode cL_refused 241 = .ok (.ireturn, 1) := by decide +kernel
set_option maxRecDepth 20000 in
theorem ggL_build_X3_init : GoodIn wsL_build wsX3_init := goodIn_r _ [10, 11, 12, 13, 14, 15, 16, 5, 17, 18, 94, 95, 96, 97, 98, 99, 100] (by decide +kernel) (by decide +kernel)
set_option maxRecDepth 20000 in
theorem gL_build_X3_init_n99 : GoodIn wsL_build (wsX3_init) := ggL_build_X3_init
set_option maxRecDepth 20000 in
theorem ggL_build_L_cell : GoodIn wsL_build wsL_cell := goodIn_r _ [22, 23] (by decide +kernel) (by decide +kernel)
set_option maxRecDepth 20000 in
theorem gL_build_L_cell : GoodIn wsL_build (va_wsS RL 100 yL_cell wsL_cell) := goodIn_app (goodIn_of _ (by decide +kernel)) ggL_build_L_cell
set_option maxRecDepth 20000 in
theorem ggL_build_L_below : GoodIn wsL_build wsL_below := goodIn_r _ [26, 27] (by decide +kernel) (by decide +kernel)
set_option maxRecDepth 20000 in
theorem gL_build_L_below : GoodIn wsL_build (va_wsS RL 15 yL_below wsL_below) := goodIn_app (goodIn_of _ (by decide +kernel)) ggL_build_L_below
set_option maxRecDepth 20000 in
theorem ggL_build_X3_more : GoodIn wsL_build wsX3_more := goodIn_r _ [30, 14] (by decide +kernel) (by decide +kernel)
set_option maxRecDepth 20000 in
theorem gL_build_X3_more : GoodIn wsL_build (va_wsS RL 38 yX3_more wsX3_more) := goodIn_app (goodIn_of _ (by decide +kernel)) ggL_build_X3_more
set_option maxRecDepth 20000 in
theorem ggL_build_X2_addShip : GoodIn wsL_build wsX2_addShip := goodIn_ca (goodIn_ca (goodIn_r _ [35, 36, 37, 38, 39, 40, 41, 42, 43, 44, 45, 46, 47, 48, 34, 49, 101, 102, 103, 104, 105, 106, 107, 108, 109, 110, 111] (by decide +kernel) (by decide +kernel)) (goodIn_sub (fun _ h => List.mem_cons_of_mem _ (List.mem_append_left _ (List.mem_append_left _ (List.mem_append_right _ h)))) (by decide +kernel))) (goodIn_sub (fun _ h => List.mem_cons_of_mem _ (List.mem_append_left _ (List.mem_append_right _ h))) (by decide +kernel))
set_option maxRecDepth 20000 in
theorem gL_build_X2_addShip : GoodIn wsL_build (wsV RL 32 RX2 yX2_addShip wsX2_addShip) := goodIn_app (goodIn_of _ (by decide +kernel)) ggL_build_X2_addShip
set_option maxRecDepth 20000 in
theorem ggL_build_X2_addSailor : GoodIn wsL_build wsX2_addSailor := goodIn_ca (goodIn_ca (goodIn_r _ [53, 54, 55, 38, 39, 40, 56, 57, 58, 59, 34, 60, 61, 62, 63, 64, 65, 66, 67, 68, 69, 70, 71, 72, 44, 73, 74, 75, 76, 77, 48, 49, 78, 79, 101, 102, 103, 104, 105, 106, 107, 108, 109, 110, 111, 112, 113, 114, 115, 116, 117, 118, 119, 120, 121] (by decide +kernel) (by decide +kernel)) (goodIn_sub (fun _ h => List.mem_cons_of_mem _ (List.mem_append_right _ h)) (by decide +kernel))) (goodIn_sub (fun _ h => List.mem_cons_of_mem _ (List.mem_append_left _ (List.mem_append_right _ h))) (by decide +kernel))
set_option maxRecDepth 20000 in
theorem gL_build_X2_addSailor : GoodIn wsL_build (wsV RL 42 RX2 yX2_addSailor wsX2_addSailor) := goodIn_app (goodIn_of _ (by decide +kernel)) ggL_build_X2_addSailor
set_option maxRecDepth 20000 in
theorem ggL_build_X2_addWatcher : GoodIn wsL_build wsX2_addWatcher := goodIn_ca (goodIn_r _ [83, 38, 39, 40, 56, 84, 85, 86, 44, 87, 88, 89, 48, 34, 49, 101, 102, 103, 104, 105, 106, 107, 108, 109, 110, 111, 112, 113, 114, 115, 116, 117, 118, 119, 120, 121] (by decide +kernel) (by decide +kernel)) (goodIn_sub (fun _ h => List.mem_cons_of_mem _ (List.mem_append_left _ (List.mem_append_right _ h))) (by decide +kernel))
set_option maxRecDepth 20000 in
theorem gL_build_X2_addWatcher : GoodIn wsL_build (wsV RL 46 RX2 yX2_addWatcher wsX2_addWatcher) := goodIn_app (goodIn_of _ (by decide +kernel)) ggL_build_X2_addWatcher
set_option maxRecDepth 20000 in
theorem ggL_build_X2_buyWax : GoodIn wsL_build wsX2_buyWax := goodIn_ca (goodIn_r _ [93, 36, 37, 56, 101, 102, 103, 112, 113, 114, 115, 116, 117, 118, 119, 120, 121] (by decide +kernel) (by decide +kernel)) (goodIn_sub (fun _ h => List.mem_cons_of_mem _ (List.mem_append_left _ (List.mem_append_left _ (List.mem_append_right _ h)))) (by decide +kernel))
set_option maxRecDepth 20000 in
theorem gL_build_X2_buyWax : GoodIn wsL_build (wsV RL 54 RX2 yX2_buyWax wsX2_buyWax) := goodIn_app (goodIn_of _ (by decide +kernel)) ggL_build_X2_buyWax
theorem dL_build_0 : decode cL_build 0 = .ok (.new 10, 3) := by decide +kernel
theorem dL_build_3 : decode cL_build 3 = .ok (.dup, 1) := by decide +kernel
theorem dL_build_4 : decode cL_build 4 = .ok (.invokespecial 99, 3) := by decide +kernel
theorem dL_build_7 : decode cL_build 7 = .ok (.astore_n 2, 1) := by decide +kernel
theorem dL_build_8 : decode cL_build 8 = .ok (.iconst 1, 1) := by decide +kernel
theorem dL_build_9 : decode cL_build 9 = .ok (.aload_n 1, 1) := by decide +kernel
theorem dL_build_10 : decode cL_build 10 = .ok (.iconst 0, 1) := by decide +kernel
theorem dL_build_11 : decode cL_build 11 = .ok (.invokestatic 100, 3) := by decide +kernel
theorem dL_build_14 : decode cL_build 14 = .ok (.iconst 4, 1) := by decide +kernel
theorem dL_build_15 : decode cL_build 15 = .ok (.invokestatic 15, 3) := by decide +kernel
theorem dL_build_18 : decode cL_build 18 = .ok (.iadd, 1) := by decide +kernel
theorem dL_build_19 : decode cL_build 19 = .ok (.istore_n 3, 1) := by decide +kernel
theorem dL_build_20 : decode cL_build 20 = .ok (.iconst 0, 1) := by decide +kernel
theorem dL_build_21 : decode cL_build 21 = .ok (.istore 4, 2) := by decide +kernel
theorem dL_build_23 : decode cL_build 23 = .ok (.iload 4, 2) := by decide +kernel
theorem dL_build_25 : decode cL_build 25 = .ok (.iload_n 3, 1) := by decide +kernel
theorem dL_build_26 : decode cL_build 26 = .ok (.if_icmp .ge 69, 3) := by decide +kernel
theorem dL_build_29 : decode cL_build 29 = .ok (.iconst 1, 1) := by decide +kernel
theorem dL_build_30 : decode cL_build 30 = .ok (.aload_n 1, 1) := by decide +kernel
theorem dL_build_31 : decode cL_build 31 = .ok (.iconst 1, 1) := by decide +kernel
theorem dL_build_32 : decode cL_build 32 = .ok (.iload 4, 2) := by decide +kernel
theorem dL_build_34 : decode cL_build 34 = .ok (.iadd, 1) := by decide +kernel
theorem dL_build_35 : decode cL_build 35 = .ok (.invokestatic 100, 3) := by decide +kernel
theorem dL_build_38 : decode cL_build 38 = .ok (.iconst 3, 1) := by decide +kernel
theorem dL_build_39 : decode cL_build 39 = .ok (.invokestatic 15, 3) := by decide +kernel
theorem dL_build_42 : decode cL_build 42 = .ok (.iadd, 1) := by decide +kernel
theorem dL_build_43 : decode cL_build 43 = .ok (.istore 5, 2) := by decide +kernel
theorem dL_build_45 : decode cL_build 45 = .ok (.aload_n 2, 1) := by decide +kernel
theorem dL_build_46 : decode cL_build 46 = .ok (.aload_n 2, 1) := by decide +kernel
theorem dL_build_47 : decode cL_build 47 = .ok (.getfield 9, 3) := by decide +kernel
theorem dL_build_50 : decode cL_build 50 = .ok (.iconst 4, 1) := by decide +kernel
theorem dL_build_51 : decode cL_build 51 = .ok (.newarray .int, 2) := by decide +kernel
theorem dL_build_53 : decode cL_build 53 = .ok (.dup, 1) := by decide +kernel
theorem dL_build_54 : decode cL_build 54 = .ok (.iconst 0, 1) := by decide +kernel
theorem dL_build_55 : decode cL_build 55 = .ok (.iload 5, 2) := by decide +kernel
theorem dL_build_57 : decode cL_build 57 = .ok (.iastore, 1) := by decide +kernel
theorem dL_build_58 : decode cL_build 58 = .ok (.dup, 1) := by decide +kernel
theorem dL_build_59 : decode cL_build 59 = .ok (.iconst 1, 1) := by decide +kernel
theorem dL_build_60 : decode cL_build 60 = .ok (.iconst 0, 1) := by decide +kernel
theorem dL_build_61 : decode cL_build 61 = .ok (.iastore, 1) := by decide +kernel
theorem dL_build_62 : decode cL_build 62 = .ok (.dup, 1) := by decide +kernel
theorem dL_build_63 : decode cL_build 63 = .ok (.iconst 2, 1) := by decide +kernel
theorem dL_build_64 : decode cL_build 64 = .ok (.iconst 0, 1) := by decide +kernel
theorem dL_build_65 : decode cL_build 65 = .ok (.iastore, 1) := by decide +kernel
theorem dL_build_66 : decode cL_build 66 = .ok (.dup, 1) := by decide +kernel
theorem dL_build_67 : decode cL_build 67 = .ok (.iconst 3, 1) := by decide +kernel
theorem dL_build_68 : decode cL_build 68 = .ok (.iconst 0, 1) := by decide +kernel
theorem dL_build_69 : decode cL_build 69 = .ok (.iastore, 1) := by decide +kernel
theorem dL_build_70 : decode cL_build 70 = .ok (.invokestatic 38, 3) := by decide +kernel
theorem dL_build_73 : decode cL_build 73 = .ok (.putfield 9, 3) := by decide +kernel
theorem dL_build_76 : decode cL_build 76 = .ok (.aload_n 0, 1) := by decide +kernel
theorem dL_build_77 : decode cL_build 77 = .ok (.iload 5, 2) := by decide +kernel
theorem dL_build_79 : decode cL_build 79 = .ok (.invokevirtual 32, 3) := by decide +kernel
theorem dL_build_82 : decode cL_build 82 = .ok (.iload 4, 2) := by decide +kernel
theorem dL_build_84 : decode cL_build 84 = .ok (.if_icmp .eq 5, 3) := by decide +kernel
theorem dL_build_87 : decode cL_build 87 = .ok (.aconst_null, 1) := by decide +kernel
theorem dL_build_88 : decode cL_build 88 = .ok (.areturn, 1) := by decide +kernel
theorem dL_build_89 : decode cL_build 89 = .ok (.iinc 4 1, 3) := by decide +kernel
theorem dL_build_92 : decode cL_build 92 = .ok (.goto (-69), 3) := by decide +kernel
theorem dL_build_95 : decode cL_build 95 = .ok (.aload_n 1, 1) := by decide +kernel
theorem dL_build_96 : decode cL_build 96 = .ok (.iconst 0, 1) := by decide +kernel
theorem dL_build_97 : decode cL_build 97 = .ok (.invokestatic 100, 3) := by decide +kernel
theorem dL_build_100 : decode cL_build 100 = .ok (.iconst 4, 1) := by decide +kernel
theorem dL_build_101 : decode cL_build 101 = .ok (.ishr, 1) := by decide +kernel
theorem dL_build_102 : decode cL_build 102 = .ok (.bipush 13, 2) := by decide +kernel
theorem dL_build_104 : decode cL_build 104 = .ok (.invokestatic 15, 3) := by decide +kernel
theorem dL_build_107 : decode cL_build 107 = .ok (.istore 4, 2) := by decide +kernel
theorem dL_build_109 : decode cL_build 109 = .ok (.iconst 0, 1) := by decide +kernel
theorem dL_build_110 : decode cL_build 110 = .ok (.istore 5, 2) := by decide +kernel
theorem dL_build_112 : decode cL_build 112 = .ok (.iload 5, 2) := by decide +kernel
theorem dL_build_114 : decode cL_build 114 = .ok (.iload 4, 2) := by decide +kernel
theorem dL_build_116 : decode cL_build 116 = .ok (.if_icmp .ge 128, 3) := by decide +kernel
theorem dL_build_119 : decode cL_build 119 = .ok (.aload_n 1, 1) := by decide +kernel
theorem dL_build_120 : decode cL_build 120 = .ok (.iload 5, 2) := by decide +kernel
theorem dL_build_122 : decode cL_build 122 = .ok (.bipush 16, 2) := by decide +kernel
theorem dL_build_124 : decode cL_build 124 = .ok (.irem, 1) := by decide +kernel
theorem dL_build_125 : decode cL_build 125 = .ok (.invokestatic 100, 3) := by decide +kernel
theorem dL_build_128 : decode cL_build 128 = .ok (.iconst 3, 1) := by decide +kernel
theorem dL_build_129 : decode cL_build 129 = .ok (.ishr, 1) := by decide +kernel
theorem dL_build_130 : decode cL_build 130 = .ok (.istore 6, 2) := by decide +kernel
theorem dL_build_132 : decode cL_build 132 = .ok (.iload 6, 2) := by decide +kernel
theorem dL_build_134 : decode cL_build 134 = .ok (.iload_n 3, 1) := by decide +kernel
theorem dL_build_135 : decode cL_build 135 = .ok (.invokestatic 15, 3) := by decide +kernel
theorem dL_build_138 : decode cL_build 138 = .ok (.istore 7, 2) := by decide +kernel
theorem dL_build_140 : decode cL_build 140 = .ok (.iload 6, 2) := by decide +kernel
theorem dL_build_142 : decode cL_build 142 = .ok (.iconst 3, 1) := by decide +kernel
theorem dL_build_143 : decode cL_build 143 = .ok (.ishr, 1) := by decide +kernel
theorem dL_build_144 : decode cL_build 144 = .ok (.aload_n 2, 1) := by decide +kernel
theorem dL_build_145 : decode cL_build 145 = .ok (.getfield 9, 3) := by decide +kernel
theorem dL_build_148 : decode cL_build 148 = .ok (.iload 7, 2) := by decide +kernel
theorem dL_build_150 : decode cL_build 150 = .ok (.aaload, 1) := by decide +kernel
theorem dL_build_151 : decode cL_build 151 = .ok (.iconst 0, 1) := by decide +kernel
theorem dL_build_152 : decode cL_build 152 = .ok (.iaload, 1) := by decide +kernel
theorem dL_build_153 : decode cL_build 153 = .ok (.invokestatic 15, 3) := by decide +kernel
theorem dL_build_156 : decode cL_build 156 = .ok (.istore 8, 2) := by decide +kernel
theorem dL_build_158 : decode cL_build 158 = .ok (.iload 6, 2) := by decide +kernel
theorem dL_build_160 : decode cL_build 160 = .ok (.iconst 5, 1) := by decide +kernel
theorem dL_build_161 : decode cL_build 161 = .ok (.ishr, 1) := by decide +kernel
theorem dL_build_162 : decode cL_build 162 = .ok (.iconst 3, 1) := by decide +kernel
theorem dL_build_163 : decode cL_build 163 = .ok (.invokestatic 15, 3) := by decide +kernel
theorem dL_build_166 : decode cL_build 166 = .ok (.ifCond .le 7, 3) := by decide +kernel
theorem dL_build_169 : decode cL_build 169 = .ok (.iconst 1, 1) := by decide +kernel
theorem dL_build_170 : decode cL_build 170 = .ok (.goto 4, 3) := by decide +kernel
theorem dL_build_173 : decode cL_build 173 = .ok (.iconst 0, 1) := by decide +kernel
theorem dL_build_174 : decode cL_build 174 = .ok (.istore 9, 2) := by decide +kernel
theorem dL_build_176 : decode cL_build 176 = .ok (.aload_n 2, 1) := by decide +kernel
theorem dL_build_177 : decode cL_build 177 = .ok (.aload_n 2, 1) := by decide +kernel
theorem dL_build_178 : decode cL_build 178 = .ok (.getfield 25, 3) := by decide +kernel
theorem dL_build_181 : decode cL_build 181 = .ok (.iconst 5, 1) := by decide +kernel
theorem dL_build_182 : decode cL_build 182 = .ok (.newarray .int, 2) := by decide +kernel
theorem dL_build_184 : decode cL_build 184 = .ok (.dup, 1) := by decide +kernel
theorem dL_build_185 : decode cL_build 185 = .ok (.iconst 0, 1) := by decide +kernel
theorem dL_build_186 : decode cL_build 186 = .ok (.iload 7, 2) := by decide +kernel
theorem dL_build_188 : decode cL_build 188 = .ok (.iastore, 1) := by decide +kernel
theorem dL_build_189 : decode cL_build 189 = .ok (.dup, 1) := by decide +kernel
theorem dL_build_190 : decode cL_build 190 = .ok (.iconst 1, 1) := by decide +kernel
theorem dL_build_191 : decode cL_build 191 = .ok (.iload 8, 2) := by decide +kernel
theorem dL_build_193 : decode cL_build 193 = .ok (.iastore, 1) := by decide +kernel
theorem dL_build_194 : decode cL_build 194 = .ok (.dup, 1) := by decide +kernel
theorem dL_build_195 : decode cL_build 195 = .ok (.iconst 2, 1) := by decide +kernel
theorem dL_build_196 : decode cL_build 196 = .ok (.iload 9, 2) := by decide +kernel
theorem dL_build_198 : decode cL_build 198 = .ok (.ifCond .eq 7, 3) := by decide +kernel
theorem dL_build_201 : decode cL_build 201 = .ok (.iconst 1, 1) := by decide +kernel
theorem dL_build_202 : decode cL_build 202 = .ok (.goto 4, 3) := by decide +kernel
theorem dL_build_205 : decode cL_build 205 = .ok (.iconst 0, 1) := by decide +kernel
theorem dL_build_206 : decode cL_build 206 = .ok (.iastore, 1) := by decide +kernel
theorem dL_build_207 : decode cL_build 207 = .ok (.dup, 1) := by decide +kernel
theorem dL_build_208 : decode cL_build 208 = .ok (.iconst 3, 1) := by decide +kernel
theorem dL_build_209 : decode cL_build 209 = .ok (.iconst 0, 1) := by decide +kernel
theorem dL_build_210 : decode cL_build 210 = .ok (.iastore, 1) := by decide +kernel
theorem dL_build_211 : decode cL_build 211 = .ok (.dup, 1) := by decide +kernel
theorem dL_build_212 : decode cL_build 212 = .ok (.iconst 4, 1) := by decide +kernel
theorem dL_build_213 : decode cL_build 213 = .ok (.iconst 0, 1) := by decide +kernel
theorem dL_build_214 : decode cL_build 214 = .ok (.iastore, 1) := by decide +kernel
theorem dL_build_215 : decode cL_build 215 = .ok (.invokestatic 38, 3) := by decide +kernel
theorem dL_build_218 : decode cL_build 218 = .ok (.putfield 25, 3) := by decide +kernel
theorem dL_build_221 : decode cL_build 221 = .ok (.aload_n 0, 1) := by decide +kernel
theorem dL_build_222 : decode cL_build 222 = .ok (.iload 7, 2) := by decide +kernel
theorem dL_build_224 : decode cL_build 224 = .ok (.iload 8, 2) := by decide +kernel
theorem dL_build_226 : decode cL_build 226 = .ok (.iload 9, 2) := by decide +kernel
theorem dL_build_228 : decode cL_build 228 = .ok (.invokevirtual 42, 3) := by decide +kernel
theorem dL_build_231 : decode cL_build 231 = .ok (.iload 5, 2) := by decide +kernel
theorem dL_build_233 : decode cL_build 233 = .ok (.if_icmp .eq 5, 3) := by decide +kernel
theorem dL_build_236 : decode cL_build 236 = .ok (.aconst_null, 1) := by decide +kernel
theorem dL_build_237 : decode cL_build 237 = .ok (.areturn, 1) := by decide +kernel
theorem dL_build_238 : decode cL_build 238 = .ok (.iinc 5 1, 3) := by decide +kernel
theorem dL_build_241 : decode cL_build 241 = .ok (.goto (-129), 3) := by decide +kernel
theorem dL_build_244 : decode cL_build 244 = .ok (.aload_n 2, 1) := by decide +kernel
theorem dL_build_245 : decode cL_build 245 = .ok (.aload_n 1, 1) := by decide +kernel
theorem dL_build_246 : decode cL_build 246 = .ok (.iconst 0, 1) := by decide +kernel
theorem dL_build_247 : decode cL_build 247 = .ok (.invokestatic 100, 3) := by decide +kernel
theorem dL_build_250 : decode cL_build 250 = .ok (.bipush 7, 2) := by decide +kernel
theorem dL_build_252 : decode cL_build 252 = .ok (.ishr, 1) := by decide +kernel
theorem dL_build_253 : decode cL_build 253 = .ok (.iconst 5, 1) := by decide +kernel
theorem dL_build_254 : decode cL_build 254 = .ok (.invokestatic 15, 3) := by decide +kernel
theorem dL_build_257 : decode cL_build 257 = .ok (.newarray .int, 2) := by decide +kernel
theorem dL_build_259 : decode cL_build 259 = .ok (.putfield 21, 3) := by decide +kernel
theorem dL_build_262 : decode cL_build 262 = .ok (.iconst 0, 1) := by decide +kernel
theorem dL_build_263 : decode cL_build 263 = .ok (.istore 5, 2) := by decide +kernel
theorem dL_build_265 : decode cL_build 265 = .ok (.iload 5, 2) := by decide +kernel
theorem dL_build_267 : decode cL_build 267 = .ok (.aload_n 2, 1) := by decide +kernel
theorem dL_build_268 : decode cL_build 268 = .ok (.getfield 21, 3) := by decide +kernel
theorem dL_build_271 : decode cL_build 271 = .ok (.arraylength, 1) := by decide +kernel
theorem dL_build_272 : decode cL_build 272 = .ok (.if_icmp .ge 28, 3) := by decide +kernel
theorem dL_build_275 : decode cL_build 275 = .ok (.aload_n 2, 1) := by decide +kernel
theorem dL_build_276 : decode cL_build 276 = .ok (.getfield 21, 3) := by decide +kernel
theorem dL_build_279 : decode cL_build 279 = .ok (.iload 5, 2) := by decide +kernel
theorem dL_build_281 : decode cL_build 281 = .ok (.iconst 5, 1) := by decide +kernel
theorem dL_build_282 : decode cL_build 282 = .ok (.iastore, 1) := by decide +kernel
theorem dL_build_283 : decode cL_build 283 = .ok (.aload_n 0, 1) := by decide +kernel
theorem dL_build_284 : decode cL_build 284 = .ok (.invokevirtual 46, 3) := by decide +kernel
theorem dL_build_287 : decode cL_build 287 = .ok (.iload 5, 2) := by decide +kernel
theorem dL_build_289 : decode cL_build 289 = .ok (.if_icmp .eq 5, 3) := by decide +kernel
theorem dL_build_292 : decode cL_build 292 = .ok (.aconst_null, 1) := by decide +kernel
theorem dL_build_293 : decode cL_build 293 = .ok (.areturn, 1) := by decide +kernel
theorem dL_build_294 : decode cL_build 294 = .ok (.iinc 5 1, 3) := by decide +kernel
theorem dL_build_297 : decode cL_build 297 = .ok (.goto (-32), 3) := by decide +kernel
theorem dL_build_300 : decode cL_build 300 = .ok (.aload_n 2, 1) := by decide +kernel
theorem dL_build_301 : decode cL_build 301 = .ok (.iconst 1, 1) := by decide +kernel
theorem dL_build_302 : decode cL_build 302 = .ok (.aload_n 1, 1) := by decide +kernel
theorem dL_build_303 : decode cL_build 303 = .ok (.iconst 5, 1) := by decide +kernel
theorem dL_build_304 : decode cL_build 304 = .ok (.invokestatic 100, 3) := by decide +kernel
theorem dL_build_307 : decode cL_build 307 = .ok (.iconst 2, 1) := by decide +kernel
theorem dL_build_308 : decode cL_build 308 = .ok (.ishr, 1) := by decide +kernel
theorem dL_build_309 : decode cL_build 309 = .ok (.sipush 300, 3) := by decide +kernel
theorem dL_build_312 : decode cL_build 312 = .ok (.invokestatic 15, 3) := by decide +kernel
theorem dL_build_315 : decode cL_build 315 = .ok (.iadd, 1) := by decide +kernel
theorem dL_build_316 : decode cL_build 316 = .ok (.putfield 50, 3) := by decide +kernel
theorem dL_build_319 : decode cL_build 319 = .ok (.aload_n 0, 1) := by decide +kernel
theorem dL_build_320 : decode cL_build 320 = .ok (.aload_n 2, 1) := by decide +kernel
theorem dL_build_321 : decode cL_build 321 = .ok (.getfield 50, 3) := by decide +kernel
theorem dL_build_324 : decode cL_build 324 = .ok (.invokevirtual 54, 3) := by decide +kernel
theorem dL_build_327 : decode cL_build 327 = .ok (.aload_n 2, 1) := by decide +kernel
theorem dL_build_328 : decode cL_build 328 = .ok (.getfield 50, 3) := by decide +kernel
theorem dL_build_331 : decode cL_build 331 = .ok (.if_icmp .ne 7, 3) := by decide +kernel
theorem dL_build_334 : decode cL_build 334 = .ok (.aload_n 2, 1) := by decide +kernel
theorem dL_build_335 : decode cL_build 335 = .ok (.goto 4, 3) := by decide +kernel
theorem dL_build_338 : decode cL_build 338 = .ok (.aconst_null, 1) := by decide +kernel
theorem dL_build_339 : decode cL_build 339 = .ok (.areturn, 1) := by decide +kernel
set_option maxRecDepth 20000 in
theorem ggL_law_X2_init : GoodIn wsL_law wsX2_init := goodIn_r _ [16, 17, 18, 19, 20, 21, 22, 23, 24, 25, 26, 27, 28, 29, 30, 31, 32, 3, 33, 34, 35, 36, 37, 38, 39, 40, 41, 42, 43, 44, 45, 46, 47, 48, 49, 527, 528, 529, 530, 531, 532, 533, 534, 517, 518, 519, 535, 536, 537, 538, 539, 540, 541, 542, 543, 544] (by decide +kernel) (by decide +kernel)
set_option maxRecDepth 20000 in
theorem gL_law_X2_init : GoodIn wsL_law (wsX2_init) := ggL_law_X2_init
set_option maxRecDepth 20000 in
theorem ggL_law_L_build : GoodIn wsL_law wsL_build := goodIn_ca (goodIn_ca (goodIn_ca (goodIn_r _ [53, 54, 55, 56, 8, 3, 57, 58, 10, 59, 60, 61, 18, 19, 62, 63, 64, 65, 66, 67, 68, 52, 69, 70, 71, 72, 73, 74, 75, 76, 77, 78, 79, 80, 2, 81, 82, 83, 84, 85, 23, 86, 87, 88, 22, 89, 90, 33, 91, 92, 93, 94, 95, 96, 97, 98, 27, 99, 100, 101, 102, 103, 104, 105, 106, 107, 108, 26, 109, 43, 110, 111, 112, 113, 114, 34, 35, 37, 115, 116, 117, 118, 119, 120, 121, 122, 123, 124, 125, 126, 127, 128, 129, 130, 520, 521, 522, 523, 524, 525, 526, 517, 518, 519, 527, 528, 529, 530, 531, 532, 533, 534, 535, 536, 537, 538, 539, 540, 541, 542, 543, 544] (by decide +kernel) (by decide +kernel)) (goodIn_sub (fun _ h => List.mem_append_left _ (List.mem_append_left _ (List.mem_append_right _ h))) (by decide +kernel))) (goodIn_sub (fun _ h => List.mem_append_left _ (List.mem_append_right _ h)) (by decide +kernel))) (goodIn_sub (fun _ h => List.mem_append_right _ h) (by decide +kernel))
set_option maxRecDepth 20000 in
theorem gL_law_L_build : GoodIn wsL_law (va_wsS RL 105 yL_build wsL_build) := goodIn_app (goodIn_of _ (by decide +kernel)) ggL_law_L_build
set_option maxRecDepth 20000 in
theorem ggL_law_L_cell : GoodIn wsL_law wsL_cell := goodIn_r _ [69, 70] (by decide +kernel) (by decide +kernel)
set_option maxRecDepth 20000 in
theorem gL_law_L_cell : GoodIn wsL_law (va_wsS RL 100 yL_cell wsL_cell) := goodIn_app (goodIn_of _ (by decide +kernel)) ggL_law_L_cell
set_option maxRecDepth 20000 in
theorem ggL_law_L_act : GoodIn wsL_law wsL_act := goodIn_ca (goodIn_ca (goodIn_ca (goodIn_r _ [133, 134, 8, 58, 57, 3, 10, 9, 71, 72, 52, 73, 74, 135, 136, 137, 138, 139, 140, 56, 141, 66, 78, 79, 80, 2, 81, 82, 83, 84, 85, 23, 86, 87, 88, 22, 89, 90, 33, 91, 92, 75, 76, 77, 62, 93, 94, 95, 96, 97, 98, 27, 99, 100, 101, 102, 103, 104, 105, 106, 107, 108, 26, 109, 43, 110, 111, 112, 113, 114, 34, 35, 37, 115, 116, 117, 118, 119, 120, 121, 122, 123, 124, 125, 126, 127, 128, 129, 130, 142, 143, 144, 145, 146, 147, 148, 149, 38, 150, 151, 152, 153, 44, 49, 154, 155, 156, 157, 158, 159, 160, 161, 162, 46, 163, 164, 165, 166, 167, 168, 169, 170, 171, 172, 173, 174, 175, 47, 176, 12, 6, 13, 177, 178, 179, 180, 48, 181, 182, 183, 184, 185, 186, 187, 45, 188, 189, 190, 191, 63, 64, 192, 193, 194, 195, 196, 197, 198, 199, 200, 201, 202, 203, 204, 205, 206, 207, 208, 209, 210, 211, 212, 213, 214, 215, 216, 217, 218, 219, 220, 221, 222, 223, 224, 65, 225, 226, 227, 228, 229, 230, 231, 232, 233, 234, 235, 236, 237, 238, 239, 240, 241, 242, 243, 244, 245, 246, 247, 248, 249, 250, 251, 252, 253, 254, 255, 256, 257, 258, 259, 260, 261, 262, 263, 264, 265, 266, 267, 268, 269, 270, 271, 272, 273, 274, 275, 276, 277, 278, 279, 280, 281, 282, 283, 284, 5, 7, 285, 286, 287, 288, 289, 290, 291, 292, 293, 294, 295, 296, 297, 298, 299, 300, 301, 302, 303, 304, 305, 306, 307, 308, 309, 310, 311, 312, 313, 520, 521, 522, 523, 524, 525, 526, 517, 518, 519, 527, 528, 529, 530, 531, 532, 533, 534, 535, 536, 537, 538, 539, 540, 541, 542, 543, 544] (by decide +kernel) (by decide +kernel)) (goodIn_sub (fun _ h => List.mem_append_left _ (List.mem_append_left _ (List.mem_append_right _ h))) (by decide +kernel))) (goodIn_sub (fun _ h => List.mem_append_left _ (List.mem_append_right _ h)) (by decide +kernel))) (goodIn_sub (fun _ h => List.mem_append_right _ h) (by decide +kernel))
set_option maxRecDepth 20000 in
theorem gL_law_L_act : GoodIn wsL_law (va_wsS RL 109 yL_act wsL_act) := goodIn_app (goodIn_of _ (by decide +kernel)) ggL_law_L_act
set_option maxRecDepth 20000 in
theorem ggL_law_X2_digest : GoodIn wsL_law wsX2_digest := goodIn_r _ [317, 318, 23, 27, 319, 320, 2, 321, 322, 323, 324, 325, 26, 326, 48, 327, 328, 329, 330, 331, 332, 333, 334, 49, 46, 154, 155, 156, 22, 157, 34, 294, 107, 108, 109, 43, 104, 105, 335, 336, 337, 338, 339, 340, 341, 342, 103, 106, 343, 344, 345, 218, 219, 220, 346, 215, 216, 217, 47, 177, 178, 179, 180, 181, 182, 183, 347, 309, 310, 311, 37, 239, 240, 241, 242, 235, 236, 237, 238, 38, 348, 349, 350, 351, 233, 517, 518, 519, 527, 528, 529, 530, 531, 532, 533, 534, 535, 536, 537, 538, 539, 540, 541, 542, 543, 544] (by decide +kernel) (by decide +kernel)
set_option maxRecDepth 20000 in
theorem gL_law_X2_digest : GoodIn wsL_law (wsV RL 113 RX2 yX2_digest wsX2_digest) := goodIn_app (goodIn_of _ (by decide +kernel)) ggL_law_X2_digest
set_option maxRecDepth 20000 in
theorem ggL_law_X2_ships : GoodIn wsL_law wsX2_ships := goodIn_r _ [355, 23, 517, 518, 519, 527, 528, 529, 530, 531, 532, 533, 534] (by decide +kernel) (by decide +kernel)
set_option maxRecDepth 20000 in
theorem gL_law_X2_ships : GoodIn wsL_law (wsV RL 117 RX2 yX2_ships wsX2_ships) := goodIn_app (goodIn_of _ (by decide +kernel)) ggL_law_X2_ships
set_option maxRecDepth 20000 in
theorem ggL_law_X2_wax : GoodIn wsL_law wsX2_wax := goodIn_r _ [359, 27, 517, 518, 519, 535, 536, 537, 538, 539, 540, 541, 542, 543, 544] (by decide +kernel) (by decide +kernel)
set_option maxRecDepth 20000 in
theorem gL_law_X2_wax : GoodIn wsL_law (wsV RL 119 RX2 yX2_wax wsX2_wax) := goodIn_app (goodIn_of _ (by decide +kernel)) ggL_law_X2_wax
set_option maxRecDepth 20000 in
theorem ggL_law_X2_sailors : GoodIn wsL_law wsX2_sailors := goodIn_r _ [363, 23, 517, 518, 519, 527, 528, 529, 530, 531, 532, 533, 534] (by decide +kernel) (by decide +kernel)
set_option maxRecDepth 20000 in
theorem gL_law_X2_sailors : GoodIn wsL_law (wsV RL 121 RX2 yX2_sailors wsX2_sailors) := goodIn_app (goodIn_of _ (by decide +kernel)) ggL_law_X2_sailors
set_option maxRecDepth 20000 in
theorem ggL_law_X2_shipOf : GoodIn wsL_law wsX2_shipOf := goodIn_ca (goodIn_r _ [367, 23, 229, 230, 231, 2, 232, 97, 98, 233, 155, 156, 22, 157, 34, 517, 518, 519, 527, 528, 529, 530, 531, 532, 533, 534] (by decide +kernel) (by decide +kernel)) (goodIn_sub (fun _ h => List.mem_append_right _ h) (by decide +kernel))
set_option maxRecDepth 20000 in
theorem gL_law_X2_shipOf : GoodIn wsL_law (wsV RL 123 RX2 yX2_shipOf wsX2_shipOf) := goodIn_app (goodIn_of _ (by decide +kernel)) ggL_law_X2_shipOf
set_option maxRecDepth 20000 in
theorem ggL_law_X2_isAway : GoodIn wsL_law wsX2_isAway := goodIn_ca (goodIn_r _ [371, 27, 99, 100, 101, 2, 102, 97, 98, 23, 106, 107, 108, 26, 109, 43, 104, 105, 517, 518, 519, 527, 528, 529, 530, 531, 532, 533, 534, 535, 536, 537, 538, 539, 540, 541, 542, 543, 544] (by decide +kernel) (by decide +kernel)) (goodIn_sub (fun _ h => List.mem_append_right _ h) (by decide +kernel))
set_option maxRecDepth 20000 in
theorem gL_law_X2_isAway : GoodIn wsL_law (wsV RL 126 RX2 yX2_isAway wsX2_isAway) := goodIn_app (goodIn_of _ (by decide +kernel)) ggL_law_X2_isAway
set_option maxRecDepth 20000 in
theorem ggL_law_X2_isLost : GoodIn wsL_law wsX2_isLost := goodIn_ca (goodIn_r _ [375, 27, 99, 100, 101, 2, 102, 97, 98, 23, 106, 107, 108, 26, 109, 43, 104, 105, 517, 518, 519, 527, 528, 529, 530, 531, 532, 533, 534, 535, 536, 537, 538, 539, 540, 541, 542, 543, 544] (by decide +kernel) (by decide +kernel)) (goodIn_sub (fun _ h => List.mem_append_right _ h) (by decide +kernel))
set_option maxRecDepth 20000 in
theorem gL_law_X2_isLost : GoodIn wsL_law (wsV RL 130 RX2 yX2_isLost wsX2_isLost) := goodIn_app (goodIn_of _ (by decide +kernel)) ggL_law_X2_isLost
set_option maxRecDepth 20000 in
theorem ggL_law_X2_candleOf : GoodIn wsL_law wsX2_candleOf := goodIn_ca (goodIn_r _ [379, 27, 229, 230, 231, 2, 232, 97, 98, 23, 103, 104, 105, 517, 518, 519, 535, 536, 537, 538, 539, 540, 541, 542, 543, 544, 527, 528, 529, 530, 531, 532, 533, 534] (by decide +kernel) (by decide +kernel)) (goodIn_sub (fun _ h => List.mem_append_right _ h) (by decide +kernel))
set_option maxRecDepth 20000 in
theorem gL_law_X2_candleOf : GoodIn wsL_law (wsV RL 133 RX2 yX2_candleOf wsX2_candleOf) := goodIn_app (goodIn_of _ (by decide +kernel)) ggL_law_X2_candleOf
set_option maxRecDepth 20000 in
theorem ggL_law_X2_isDark : GoodIn wsL_law wsX2_isDark := goodIn_ca (goodIn_r _ [383, 27, 229, 230, 231, 2, 232, 97, 98, 23, 384, 332, 333, 26, 334, 49, 46, 154, 155, 156, 22, 157, 34, 294, 107, 108, 109, 43, 104, 105, 517, 518, 519, 527, 528, 529, 530, 531, 532, 533, 534, 535, 536, 537, 538, 539, 540, 541, 542, 543, 544] (by decide +kernel) (by decide +kernel)) (goodIn_sub (fun _ h => List.mem_append_right _ h) (by decide +kernel))
set_option maxRecDepth 20000 in
theorem gL_law_X2_isDark : GoodIn wsL_law (wsV RL 136 RX2 yX2_isDark wsX2_isDark) := goodIn_app (goodIn_of _ (by decide +kernel)) ggL_law_X2_isDark
set_option maxRecDepth 20000 in
theorem ggL_law_X2_mastOf : GoodIn wsL_law wsX2_mastOf := goodIn_ca (goodIn_r _ [388, 23, 229, 230, 231, 2, 232, 97, 98, 103, 104, 105, 517, 518, 519, 527, 528, 529, 530, 531, 532, 533, 534] (by decide +kernel) (by decide +kernel)) (goodIn_sub (fun _ h => List.mem_append_right _ h) (by decide +kernel))
set_option maxRecDepth 20000 in
theorem gL_law_X2_mastOf : GoodIn wsL_law (wsV RL 139 RX2 yX2_mastOf wsX2_mastOf) := goodIn_app (goodIn_of _ (by decide +kernel)) ggL_law_X2_mastOf
set_option maxRecDepth 20000 in
theorem ggL_law_X2_mastsOf : GoodIn wsL_law wsX2_mastsOf := goodIn_ca (goodIn_r _ [392, 23, 99, 100, 101, 2, 102, 97, 98, 103, 104, 105, 517, 518, 519, 527, 528, 529, 530, 531, 532, 533, 534] (by decide +kernel) (by decide +kernel)) (goodIn_sub (fun _ h => List.mem_append_right _ h) (by decide +kernel))
set_option maxRecDepth 20000 in
theorem gL_law_X2_mastsOf : GoodIn wsL_law (wsV RL 142 RX2 yX2_mastsOf wsX2_mastsOf) := goodIn_app (goodIn_of _ (by decide +kernel)) ggL_law_X2_mastsOf
set_option maxRecDepth 20000 in
theorem ggL_law_X2_hasVoter : GoodIn wsL_law wsX2_hasVoter := goodIn_ca (goodIn_r _ [396, 23, 229, 230, 231, 2, 232, 97, 98, 218, 219, 220, 517, 518, 519, 527, 528, 529, 530, 531, 532, 533, 534] (by decide +kernel) (by decide +kernel)) (goodIn_sub (fun _ h => List.mem_append_right _ h) (by decide +kernel))
set_option maxRecDepth 20000 in
theorem gL_law_X2_hasVoter : GoodIn wsL_law (wsV RL 145 RX2 yX2_hasVoter wsX2_hasVoter) := goodIn_app (goodIn_of _ (by decide +kernel)) ggL_law_X2_hasVoter
set_option maxRecDepth 20000 in
theorem ggL_law_X2_isGivenUp : GoodIn wsL_law wsX2_isGivenUp := goodIn_ca (goodIn_r _ [400, 23, 229, 230, 231, 2, 232, 97, 98, 218, 219, 220, 517, 518, 519, 527, 528, 529, 530, 531, 532, 533, 534] (by decide +kernel) (by decide +kernel)) (goodIn_sub (fun _ h => List.mem_append_right _ h) (by decide +kernel))
set_option maxRecDepth 20000 in
theorem gL_law_X2_isGivenUp : GoodIn wsL_law (wsV RL 148 RX2 yX2_isGivenUp wsX2_isGivenUp) := goodIn_app (goodIn_of _ (by decide +kernel)) ggL_law_X2_isGivenUp
set_option maxRecDepth 20000 in
theorem ggL_law_X2_isRung : GoodIn wsL_law wsX2_isRung := goodIn_ca (goodIn_r _ [404, 27, 99, 100, 101, 2, 102, 97, 98, 23, 218, 219, 220, 517, 518, 519, 535, 536, 537, 538, 539, 540, 541, 542, 543, 544, 527, 528, 529, 530, 531, 532, 533, 534] (by decide +kernel) (by decide +kernel)) (goodIn_sub (fun _ h => List.mem_append_right _ h) (by decide +kernel))
set_option maxRecDepth 20000 in
theorem gL_law_X2_isRung : GoodIn wsL_law (wsV RL 151 RX2 yX2_isRung wsX2_isRung) := goodIn_app (goodIn_of _ (by decide +kernel)) ggL_law_X2_isRung
set_option maxRecDepth 20000 in
theorem ggL_law_X2_trustIn : GoodIn wsL_law wsX2_trustIn := goodIn_ca (goodIn_r _ [408, 27, 99, 100, 101, 2, 102, 97, 98, 23, 346, 215, 216, 26, 217, 47, 177, 178, 179, 180, 48, 181, 182, 183, 104, 105, 517, 518, 519, 527, 528, 529, 530, 531, 532, 533, 534, 535, 536, 537, 538, 539, 540, 541, 542, 543, 544] (by decide +kernel) (by decide +kernel)) (goodIn_sub (fun _ h => List.mem_append_right _ h) (by decide +kernel))
set_option maxRecDepth 20000 in
theorem gL_law_X2_trustIn : GoodIn wsL_law (wsV RL 154 RX2 yX2_trustIn wsX2_trustIn) := goodIn_app (goodIn_of _ (by decide +kernel)) ggL_law_X2_trustIn
set_option maxRecDepth 20000 in
theorem ggL_law_X2_voters : GoodIn wsL_law wsX2_voters := goodIn_ca (goodIn_r _ [412, 23, 99, 100, 101, 2, 102, 97, 98, 347, 309, 310, 22, 311, 37, 239, 240, 241, 242, 34, 517, 518, 519, 527, 528, 529, 530, 531, 532, 533, 534] (by decide +kernel) (by decide +kernel)) (goodIn_sub (fun _ h => List.mem_append_right _ h) (by decide +kernel))
set_option maxRecDepth 20000 in
theorem gL_law_X2_voters : GoodIn wsL_law (wsV RL 155 RX2 yX2_voters wsX2_voters) := goodIn_app (goodIn_of _ (by decide +kernel)) ggL_law_X2_voters
set_option maxRecDepth 20000 in
theorem ggL_law_X2_votesForLost : GoodIn wsL_law wsX2_votesForLost := goodIn_ca (goodIn_r _ [416, 23, 99, 100, 101, 2, 102, 97, 98, 235, 236, 237, 22, 238, 38, 239, 240, 241, 242, 34, 517, 518, 519, 527, 528, 529, 530, 531, 532, 533, 534] (by decide +kernel) (by decide +kernel)) (goodIn_sub (fun _ h => List.mem_append_right _ h) (by decide +kernel))
set_option maxRecDepth 20000 in
theorem gL_law_X2_votesForLost : GoodIn wsL_law (wsV RL 158 RX2 yX2_votesForLost wsX2_votesForLost) := goodIn_app (goodIn_of _ (by decide +kernel)) ggL_law_X2_votesForLost
set_option maxRecDepth 20000 in
theorem ggL_law_X2_votesMissing : GoodIn wsL_law wsX2_votesMissing := goodIn_ca (goodIn_r _ [420, 23, 99, 100, 101, 2, 102, 97, 98, 421, 304, 305, 22, 306, 307, 5, 6, 7, 308, 309, 310, 311, 37, 239, 240, 241, 242, 34, 312, 236, 237, 238, 38, 517, 518, 519, 527, 528, 529, 530, 531, 532, 533, 534] (by decide +kernel) (by decide +kernel)) (goodIn_sub (fun _ h => List.mem_append_right _ h) (by decide +kernel))
set_option maxRecDepth 20000 in
theorem gL_law_X2_votesMissing : GoodIn wsL_law (wsV RL 161 RX2 yX2_votesMissing wsX2_votesMissing) := goodIn_app (goodIn_of _ (by decide +kernel)) ggL_law_X2_votesMissing
set_option maxRecDepth 20000 in
theorem ggL_law_X2_watchers : GoodIn wsL_law wsX2_watchers := goodIn_r _ [425, 23, 517, 518, 519, 527, 528, 529, 530, 531, 532, 533, 534] (by decide +kernel) (by decide +kernel)
set_option maxRecDepth 20000 in
theorem gL_law_X2_watchers : GoodIn wsL_law (wsV RL 169 RX2 yX2_watchers wsX2_watchers) := goodIn_app (goodIn_of _ (by decide +kernel)) ggL_law_X2_watchers
set_option maxRecDepth 20000 in
theorem ggL_law_X2_trustOf : GoodIn wsL_law wsX2_trustOf := goodIn_ca (goodIn_r _ [429, 27, 205, 206, 207, 2, 208, 97, 98, 23, 103, 104, 105, 517, 518, 519, 535, 536, 537, 538, 539, 540, 541, 542, 543, 544, 527, 528, 529, 530, 531, 532, 533, 534] (by decide +kernel) (by decide +kernel)) (goodIn_sub (fun _ h => List.mem_append_right _ h) (by decide +kernel))
set_option maxRecDepth 20000 in
theorem gL_law_X2_trustOf : GoodIn wsL_law (wsV RL 172 RX2 yX2_trustOf wsX2_trustOf) := goodIn_app (goodIn_of _ (by decide +kernel)) ggL_law_X2_trustOf
set_option maxRecDepth 20000 in
theorem ggL_law_X2_nightsUntilDark : GoodIn wsL_law wsX2_nightsUntilDark := goodIn_r _ [433, 28, 27, 434, 435, 436, 26, 437, 43, 44, 45, 46, 47, 48, 272, 162, 289, 438, 2, 439, 440, 441, 327, 328, 329, 330, 331, 332, 333, 334, 49, 154, 155, 156, 22, 157, 34, 294, 107, 108, 109, 104, 105, 442, 269, 270, 271, 273, 274, 275, 276, 277, 278, 279, 280, 281, 282, 283, 284, 5, 6, 7, 91, 92, 285, 286, 287, 288, 219, 220, 214, 215, 216, 217, 177, 178, 179, 180, 181, 182, 183, 115, 116, 290, 291, 292, 293, 295, 296, 297, 298, 158, 159, 160, 161, 299, 300, 301, 302, 303, 304, 305, 306, 307, 308, 309, 310, 311, 37, 239, 240, 241, 242, 312, 236, 237, 238, 38, 313, 185, 186, 187, 517, 518, 519, 535, 536, 537, 538, 539, 540, 541, 542, 543, 544, 527, 528, 529, 530, 531, 532, 533, 534] (by decide +kernel) (by decide +kernel)
set_option maxRecDepth 20000 in
theorem gL_law_X2_nightsUntilDark : GoodIn wsL_law (wsV RL 175 RX2 yX2_nightsUntilDark wsX2_nightsUntilDark) := goodIn_app (goodIn_of _ (by decide +kernel)) ggL_law_X2_nightsUntilDark
set_option maxRecDepth 20000 in
theorem ggL_law_X2_darkCandles : GoodIn wsL_law wsX2_darkCandles := goodIn_r _ [446, 27, 327, 328, 329, 26, 330, 331, 332, 333, 334, 49, 46, 154, 155, 156, 22, 157, 34, 294, 107, 108, 109, 43, 104, 2, 105, 517, 518, 519, 535, 536, 537, 538, 539, 540, 541, 542, 543, 544, 527, 528, 529, 530, 531, 532, 533, 534] (by decide +kernel) (by decide +kernel)
set_option maxRecDepth 20000 in
theorem gL_law_X2_darkCandles : GoodIn wsL_law (wsV RL 178 RX2 yX2_darkCandles wsX2_darkCandles) := goodIn_app (goodIn_of _ (by decide +kernel)) ggL_law_X2_darkCandles
set_option maxRecDepth 20000 in
theorem ggL_law_X2_namesOnWall : GoodIn wsL_law wsX2_namesOnWall := goodIn_r _ [450, 27, 335, 336, 337, 26, 338, 49, 154, 155, 156, 22, 157, 34, 294, 107, 108, 109, 43, 104, 2, 105, 517, 518, 519, 535, 536, 537, 538, 539, 540, 541, 542, 543, 544, 527, 528, 529, 530, 531, 532, 533, 534] (by decide +kernel) (by decide +kernel)
set_option maxRecDepth 20000 in
theorem gL_law_X2_namesOnWall : GoodIn wsL_law (wsV RL 181 RX2 yX2_namesOnWall wsX2_namesOnWall) := goodIn_app (goodIn_of _ (by decide +kernel)) ggL_law_X2_namesOnWall
set_option maxRecDepth 20000 in
theorem ggL_law_L_below : GoodIn wsL_law wsL_below := goodIn_r _ [73, 74] (by decide +kernel) (by decide +kernel)
set_option maxRecDepth 20000 in
theorem gL_law_L_below : GoodIn wsL_law (va_wsS RL 15 yL_below wsL_below) := goodIn_app (goodIn_of _ (by decide +kernel)) ggL_law_L_below
set_option maxRecDepth 20000 in
theorem ggL_law_X3_isSighted : GoodIn wsL_law wsX3_isSighted := goodIn_r _ [141, 66, 520, 521, 522, 523, 524, 525, 526] (by decide +kernel) (by decide +kernel)
set_option maxRecDepth 20000 in
theorem gL_law_X3_isSighted : GoodIn wsL_law (wsV RL 96 RX3 yX3_isSighted wsX3_isSighted) := goodIn_app (goodIn_of _ (by decide +kernel)) ggL_law_X3_isSighted
set_option maxRecDepth 20000 in
theorem ggL_law_X2_wouldRing : GoodIn wsL_law wsX2_wouldRing := goodIn_ca (goodIn_ca (goodIn_r _ [454, 27, 201, 202, 203, 2, 204, 84, 85, 205, 206, 207, 208, 97, 98, 23, 99, 100, 101, 102, 106, 107, 108, 26, 109, 43, 104, 105, 209, 178, 179, 180, 48, 181, 182, 183, 218, 219, 220, 346, 215, 216, 217, 47, 177, 103, 517, 518, 519, 535, 536, 537, 538, 539, 540, 541, 542, 543, 544, 527, 528, 529, 530, 531, 532, 533, 534] (by decide +kernel) (by decide +kernel)) (goodIn_sub (fun _ h => List.mem_append_left _ (List.mem_append_right _ h)) (by decide +kernel))) (goodIn_sub (fun _ h => List.mem_append_right _ h) (by decide +kernel))
set_option maxRecDepth 20000 in
theorem gL_law_X2_wouldRing : GoodIn wsL_law (wsV RL 184 RX2 yX2_wouldRing wsX2_wouldRing) := goodIn_app (goodIn_of _ (by decide +kernel)) ggL_law_X2_wouldRing
set_option maxRecDepth 20000 in
theorem ggL_law_X2_sight : GoodIn wsL_law wsX2_sight := goodIn_ca (goodIn_ca (goodIn_r _ [200, 27, 201, 202, 203, 2, 204, 84, 85, 205, 206, 207, 208, 97, 98, 23, 99, 100, 101, 102, 106, 107, 108, 26, 109, 43, 104, 105, 209, 178, 179, 180, 48, 181, 182, 183, 210, 211, 212, 213, 45, 91, 92, 214, 215, 216, 217, 47, 177, 115, 116, 218, 219, 220, 517, 518, 519, 535, 536, 537, 538, 539, 540, 541, 542, 543, 544, 527, 528, 529, 530, 531, 532, 533, 534] (by decide +kernel) (by decide +kernel)) (goodIn_sub (fun _ h => List.mem_append_left _ (List.mem_append_right _ h)) (by decide +kernel))) (goodIn_sub (fun _ h => List.mem_append_right _ h) (by decide +kernel))
set_option maxRecDepth 20000 in
theorem gL_law_X2_sight : GoodIn wsL_law (wsV RL 74 RX2 yX2_sight wsX2_sight) := goodIn_app (goodIn_of _ (by decide +kernel)) ggL_law_X2_sight
set_option maxRecDepth 20000 in
theorem ggL_law_X3_more : GoodIn wsL_law wsX3_more := goodIn_r _ [77, 62] (by decide +kernel) (by decide +kernel)
set_option maxRecDepth 20000 in
theorem gL_law_X3_more : GoodIn wsL_law (va_wsS RL 38 yX3_more wsX3_more) := goodIn_app (goodIn_of _ (by decide +kernel)) ggL_law_X3_more
set_option maxRecDepth 20000 in
theorem ggL_law_X2_waxWanted : GoodIn wsL_law wsX2_waxWanted := goodIn_ca (goodIn_r _ [458, 261, 262, 2, 263, 82, 83, 459, 460, 461, 462, 28, 27, 434, 435, 436, 26, 437, 43, 44, 45, 46, 47, 48, 272, 162, 289, 438, 439, 440, 441, 442, 269, 270, 271, 273, 274, 275, 276, 277, 278, 279, 280, 281, 282, 283, 284, 5, 6, 7, 104, 105, 91, 92, 285, 286, 287, 288, 219, 220, 214, 215, 216, 217, 177, 178, 179, 180, 181, 182, 183, 115, 116, 290, 291, 292, 293, 49, 154, 155, 156, 22, 157, 34, 294, 107, 108, 109, 295, 296, 297, 298, 158, 159, 160, 161, 299, 300, 301, 302, 303, 304, 305, 306, 307, 308, 309, 310, 311, 37, 239, 240, 241, 242, 312, 236, 237, 238, 38, 313, 185, 186, 187, 327, 328, 329, 330, 331, 332, 333, 334, 517, 518, 519, 535, 536, 537, 538, 539, 540, 541, 542, 543, 544, 527, 528, 529, 530, 531, 532, 533, 534] (by decide +kernel) (by decide +kernel)) (goodIn_sub (fun _ h => List.mem_append_left _ (List.mem_append_left _ (List.mem_append_right _ h))) (by decide +kernel))
set_option maxRecDepth 20000 in
theorem gL_law_X2_waxWanted : GoodIn wsL_law (wsV RL 187 RX2 yX2_waxWanted wsX2_waxWanted) := goodIn_app (goodIn_of _ (by decide +kernel)) ggL_law_X2_waxWanted
set_option maxRecDepth 20000 in
theorem ggL_law_X2_buyWax : GoodIn wsL_law wsX2_buyWax := goodIn_ca (goodIn_r _ [130, 82, 83, 27, 517, 518, 519, 535, 536, 537, 538, 539, 540, 541, 542, 543, 544] (by decide +kernel) (by decide +kernel)) (goodIn_sub (fun _ h => List.mem_append_left _ (List.mem_append_left _ (List.mem_append_right _ h))) (by decide +kernel))
set_option maxRecDepth 20000 in
theorem gL_law_X2_buyWax : GoodIn wsL_law (wsV RL 54 RX2 yX2_buyWax wsX2_buyWax) := goodIn_app (goodIn_of _ (by decide +kernel)) ggL_law_X2_buyWax
set_option maxRecDepth 20000 in
theorem ggL_law_X2_bellsUnrung : GoodIn wsL_law wsX2_bellsUnrung := goodIn_r _ [466, 27, 517, 518, 519, 535, 536, 537, 538, 539, 540, 541, 542, 543, 544] (by decide +kernel) (by decide +kernel)
set_option maxRecDepth 20000 in
theorem gL_law_X2_bellsUnrung : GoodIn wsL_law (wsV RL 190 RX2 yX2_bellsUnrung wsX2_bellsUnrung) := goodIn_app (goodIn_of _ (by decide +kernel)) ggL_law_X2_bellsUnrung
set_option maxRecDepth 20000 in
theorem ggL_law_X2_burnNights : GoodIn wsL_law wsX2_burnNights := goodIn_ca (goodIn_r _ [260, 27, 261, 262, 2, 263, 82, 83, 264, 265, 266, 26, 267, 268, 269, 270, 271, 272, 273, 274, 275, 276, 48, 277, 278, 279, 280, 281, 282, 283, 47, 284, 5, 6, 7, 104, 105, 91, 92, 285, 286, 287, 288, 45, 289, 219, 220, 214, 215, 216, 217, 177, 178, 179, 180, 181, 182, 183, 115, 116, 290, 291, 292, 293, 49, 46, 154, 155, 156, 22, 157, 34, 294, 107, 108, 109, 43, 295, 296, 297, 298, 158, 159, 160, 161, 162, 299, 300, 301, 302, 44, 303, 304, 305, 306, 307, 308, 309, 310, 311, 37, 239, 240, 241, 242, 312, 236, 237, 238, 38, 313, 185, 186, 187, 517, 518, 519, 535, 536, 537, 538, 539, 540, 541, 542, 543, 544, 527, 528, 529, 530, 531, 532, 533, 534] (by decide +kernel) (by decide +kernel)) (goodIn_sub (fun _ h => List.mem_append_left _ (List.mem_append_left _ (List.mem_append_right _ h))) (by decide +kernel))
set_option maxRecDepth 20000 in
theorem gL_law_X2_burnNights : GoodIn wsL_law (wsV RL 91 RX2 yX2_burnNights wsX2_burnNights) := goodIn_app (goodIn_of _ (by decide +kernel)) ggL_law_X2_burnNights
set_option maxRecDepth 20000 in
theorem ggL_law_X3_pass : GoodIn wsL_law wsX3_pass := goodIn_r _ [250, 66, 65, 63, 251, 64, 252, 192, 193, 194, 56, 195, 62, 196, 76, 77, 253, 222, 223, 224, 254, 164, 165, 166, 167, 255, 244, 245, 246, 256, 189, 190, 191, 520, 521, 522, 523, 524, 525, 526] (by decide +kernel) (by decide +kernel)
set_option maxRecDepth 20000 in
theorem gL_law_X3_pass : GoodIn wsL_law (wsV RL 88 RX3 yX3_pass wsX3_pass) := goodIn_app (goodIn_of _ (by decide +kernel)) ggL_law_X3_pass
set_option maxRecDepth 20000 in
theorem ggL_law_X3_isSame : GoodIn wsL_law wsX3_isSame := goodIn_ca (goodIn_r _ [470, 63, 64, 65, 66, 252, 167, 251, 255, 244, 245, 56, 246, 471, 390, 391, 2, 392, 23, 99, 100, 101, 102, 97, 98, 103, 104, 105, 472, 369, 370, 371, 27, 106, 107, 108, 26, 109, 43, 473, 373, 374, 375, 474, 475, 476, 477, 478, 402, 403, 404, 218, 219, 220, 479, 406, 407, 408, 346, 215, 216, 217, 47, 177, 178, 179, 180, 48, 181, 182, 183, 253, 222, 223, 224, 480, 410, 411, 412, 347, 309, 310, 22, 311, 37, 239, 240, 241, 242, 34, 481, 414, 415, 416, 235, 236, 237, 238, 38, 482, 418, 419, 420, 421, 304, 305, 306, 307, 5, 6, 7, 308, 312, 483, 365, 366, 367, 229, 230, 231, 232, 233, 155, 156, 157, 484, 386, 387, 388, 485, 394, 395, 396, 486, 398, 399, 400, 487, 377, 378, 379, 488, 381, 382, 383, 384, 332, 333, 334, 49, 46, 154, 294, 489, 490, 491, 492, 493, 427, 428, 429, 205, 206, 207, 208, 494, 353, 354, 355, 495, 361, 362, 363, 496, 423, 424, 425, 497, 498, 499, 500, 323, 324, 325, 326, 501, 502, 503, 504, 505, 357, 358, 359, 506, 444, 445, 446, 327, 328, 329, 330, 331, 507, 508, 509, 510, 511, 464, 465, 466, 512, 448, 449, 450, 335, 336, 337, 338, 513, 514, 515, 516, 520, 521, 522, 523, 524, 525, 526, 517, 518, 519, 527, 528, 529, 530, 531, 532, 533, 534, 535, 536, 537, 538, 539, 540, 541, 542, 543, 544] (by decide +kernel) (by decide +kernel)) (goodIn_sub (fun _ h => List.mem_append_right _ h) (by decide +kernel))
set_option maxRecDepth 20000 in
theorem gL_law_X3_isSame : GoodIn wsL_law (wsV RL 196 RX3 yX3_isSame wsX3_isSame) := goodIn_app (goodIn_of _ (by decide +kernel)) ggL_law_X3_isSame
theorem dL_law_0 : decode cL_law 0 = .ok (.new 33, 3) := by decide +kernel
theorem dL_law_3 : decode cL_law 3 = .ok (.dup, 1) := by decide +kernel
theorem dL_law_4 : decode cL_law 4 = .ok (.invokespecial 104, 3) := by decide +kernel
theorem dL_law_7 : decode cL_law 7 = .ok (.astore_n 1, 1) := by decide +kernel
theorem dL_law_8 : decode cL_law 8 = .ok (.aload_n 1, 1) := by decide +kernel
theorem dL_law_9 : decode cL_law 9 = .ok (.aload_n 0, 1) := by decide +kernel
theorem dL_law_10 : decode cL_law 10 = .ok (.invokestatic 105, 3) := by decide +kernel
theorem dL_law_13 : decode cL_law 13 = .ok (.astore_n 2, 1) := by decide +kernel
theorem dL_law_14 : decode cL_law 14 = .ok (.aload_n 2, 1) := by decide +kernel
theorem dL_law_15 : decode cL_law 15 = .ok (.ifnonnull 5, 3) := by decide +kernel
theorem dL_law_18 : decode cL_law 18 = .ok (.iconst 0, 1) := by decide +kernel
theorem dL_law_19 : decode cL_law 19 = .ok (.ireturn, 1) := by decide +kernel
theorem dL_law_20 : decode cL_law 20 = .ok (.iconst 0, 1) := by decide +kernel
theorem dL_law_21 : decode cL_law 21 = .ok (.istore_n 3, 1) := by decide +kernel
theorem dL_law_22 : decode cL_law 22 = .ok (.iload_n 3, 1) := by decide +kernel
theorem dL_law_23 : decode cL_law 23 = .ok (.bipush 12, 2) := by decide +kernel
theorem dL_law_25 : decode cL_law 25 = .ok (.if_icmp .ge 1290, 3) := by decide +kernel
theorem dL_law_28 : decode cL_law 28 = .ok (.aload_n 0, 1) := by decide +kernel
theorem dL_law_29 : decode cL_law 29 = .ok (.iload_n 3, 1) := by decide +kernel
theorem dL_law_30 : decode cL_law 30 = .ok (.invokestatic 100, 3) := by decide +kernel
theorem dL_law_33 : decode cL_law 33 = .ok (.iconst 2, 1) := by decide +kernel
theorem dL_law_34 : decode cL_law 34 = .ok (.ishr, 1) := by decide +kernel
theorem dL_law_35 : decode cL_law 35 = .ok (.bipush 53, 2) := by decide +kernel
theorem dL_law_37 : decode cL_law 37 = .ok (.iload_n 3, 1) := by decide +kernel
theorem dL_law_38 : decode cL_law 38 = .ok (.imul, 1) := by decide +kernel
theorem dL_law_39 : decode cL_law 39 = .ok (.iadd, 1) := by decide +kernel
theorem dL_law_40 : decode cL_law 40 = .ok (.istore 4, 2) := by decide +kernel
theorem dL_law_42 : decode cL_law 42 = .ok (.iconst 0, 1) := by decide +kernel
theorem dL_law_43 : decode cL_law 43 = .ok (.istore 5, 2) := by decide +kernel
theorem dL_law_45 : decode cL_law 45 = .ok (.iload 5, 2) := by decide +kernel
theorem dL_law_47 : decode cL_law 47 = .ok (.iconst 4, 1) := by decide +kernel
theorem dL_law_48 : decode cL_law 48 = .ok (.if_icmp .ge 32, 3) := by decide +kernel
theorem dL_law_51 : decode cL_law 51 = .ok (.aload_n 1, 1) := by decide +kernel
theorem dL_law_52 : decode cL_law 52 = .ok (.aload_n 2, 1) := by decide +kernel
theorem dL_law_53 : decode cL_law 53 = .ok (.iload 4, 2) := by decide +kernel
theorem dL_law_55 : decode cL_law 55 = .ok (.iconst 3, 1) := by decide +kernel
theorem dL_law_56 : decode cL_law 56 = .ok (.iload 5, 2) := by decide +kernel
theorem dL_law_58 : decode cL_law 58 = .ok (.imul, 1) := by decide +kernel
theorem dL_law_59 : decode cL_law 59 = .ok (.ishr, 1) := by decide +kernel
theorem dL_law_60 : decode cL_law 60 = .ok (.bipush 29, 2) := by decide +kernel
theorem dL_law_62 : decode cL_law 62 = .ok (.iload 5, 2) := by decide +kernel
theorem dL_law_64 : decode cL_law 64 = .ok (.imul, 1) := by decide +kernel
theorem dL_law_65 : decode cL_law 65 = .ok (.iadd, 1) := by decide +kernel
theorem dL_law_66 : decode cL_law 66 = .ok (.invokestatic 109, 3) := by decide +kernel
theorem dL_law_69 : decode cL_law 69 = .ok (.ifCond .ne 5, 3) := by decide +kernel
theorem dL_law_72 : decode cL_law 72 = .ok (.iconst 0, 1) := by decide +kernel
theorem dL_law_73 : decode cL_law 73 = .ok (.ireturn, 1) := by decide +kernel
theorem dL_law_74 : decode cL_law 74 = .ok (.iinc 5 1, 3) := by decide +kernel
theorem dL_law_77 : decode cL_law 77 = .ok (.goto (-32), 3) := by decide +kernel
theorem dL_law_80 : decode cL_law 80 = .ok (.aload_n 1, 1) := by decide +kernel
theorem dL_law_81 : decode cL_law 81 = .ok (.invokevirtual 113, 3) := by decide +kernel
theorem dL_law_84 : decode cL_law 84 = .ok (.lstore 5, 2) := by decide +kernel
theorem dL_law_86 : decode cL_law 86 = .ok (.aload_n 1, 1) := by decide +kernel
theorem dL_law_87 : decode cL_law 87 = .ok (.invokevirtual 117, 3) := by decide +kernel
theorem dL_law_90 : decode cL_law 90 = .ok (.istore 7, 2) := by decide +kernel
theorem dL_law_92 : decode cL_law 92 = .ok (.iload 7, 2) := by decide +kernel
theorem dL_law_94 : decode cL_law 94 = .ok (.newarray .int, 2) := by decide +kernel
theorem dL_law_96 : decode cL_law 96 = .ok (.astore 8, 2) := by decide +kernel
theorem dL_law_98 : decode cL_law 98 = .ok (.iload 7, 2) := by decide +kernel
theorem dL_law_100 : decode cL_law 100 = .ok (.newarray .int, 2) := by decide +kernel
theorem dL_law_102 : decode cL_law 102 = .ok (.astore 9, 2) := by decide +kernel
theorem dL_law_104 : decode cL_law 104 = .ok (.iload 7, 2) := by decide +kernel
theorem dL_law_106 : decode cL_law 106 = .ok (.newarray .int, 2) := by decide +kernel
theorem dL_law_108 : decode cL_law 108 = .ok (.astore 10, 2) := by decide +kernel
theorem dL_law_110 : decode cL_law 110 = .ok (.iconst 0, 1) := by decide +kernel
theorem dL_law_111 : decode cL_law 111 = .ok (.istore 11, 2) := by decide +kernel
theorem dL_law_113 : decode cL_law 113 = .ok (.iconst 0, 1) := by decide +kernel
theorem dL_law_114 : decode cL_law 114 = .ok (.istore 12, 2) := by decide +kernel
theorem dL_law_116 : decode cL_law 116 = .ok (.aload_n 1, 1) := by decide +kernel
theorem dL_law_117 : decode cL_law 117 = .ok (.invokevirtual 119, 3) := by decide +kernel
theorem dL_law_120 : decode cL_law 120 = .ok (.istore 13, 2) := by decide +kernel
theorem dL_law_122 : decode cL_law 122 = .ok (.iconst 0, 1) := by decide +kernel
theorem dL_law_123 : decode cL_law 123 = .ok (.istore 14, 2) := by decide +kernel
theorem dL_law_125 : decode cL_law 125 = .ok (.iload 14, 2) := by decide +kernel
theorem dL_law_127 : decode cL_law 127 = .ok (.aload_n 1, 1) := by decide +kernel
theorem dL_law_128 : decode cL_law 128 = .ok (.invokevirtual 121, 3) := by decide +kernel
theorem dL_law_131 : decode cL_law 131 = .ok (.if_icmp .ge 211, 3) := by decide +kernel
theorem dL_law_134 : decode cL_law 134 = .ok (.aload_n 1, 1) := by decide +kernel
theorem dL_law_135 : decode cL_law 135 = .ok (.iload 14, 2) := by decide +kernel
theorem dL_law_137 : decode cL_law 137 = .ok (.invokevirtual 123, 3) := by decide +kernel
theorem dL_law_140 : decode cL_law 140 = .ok (.istore 15, 2) := by decide +kernel
theorem dL_law_142 : decode cL_law 142 = .ok (.aload_n 1, 1) := by decide +kernel
theorem dL_law_143 : decode cL_law 143 = .ok (.iload 15, 2) := by decide +kernel
theorem dL_law_145 : decode cL_law 145 = .ok (.invokevirtual 126, 3) := by decide +kernel
theorem dL_law_148 : decode cL_law 148 = .ok (.ifCond .eq 16, 3) := by decide +kernel
theorem dL_law_151 : decode cL_law 151 = .ok (.aload_n 1, 1) := by decide +kernel
theorem dL_law_152 : decode cL_law 152 = .ok (.iload 15, 2) := by decide +kernel
theorem dL_law_154 : decode cL_law 154 = .ok (.invokevirtual 130, 3) := by decide +kernel
theorem dL_law_157 : decode cL_law 157 = .ok (.ifCond .ne 7, 3) := by decide +kernel
theorem dL_law_160 : decode cL_law 160 = .ok (.iconst 1, 1) := by decide +kernel
theorem dL_law_161 : decode cL_law 161 = .ok (.goto 4, 3) := by decide +kernel
theorem dL_law_164 : decode cL_law 164 = .ok (.iconst 0, 1) := by decide +kernel
theorem dL_law_165 : decode cL_law 165 = .ok (.istore 16, 2) := by decide +kernel
theorem dL_law_167 : decode cL_law 167 = .ok (.aload_n 1, 1) := by decide +kernel
theorem dL_law_168 : decode cL_law 168 = .ok (.iload 14, 2) := by decide +kernel
theorem dL_law_170 : decode cL_law 170 = .ok (.invokevirtual 133, 3) := by decide +kernel
theorem dL_law_173 : decode cL_law 173 = .ok (.istore 17, 2) := by decide +kernel
theorem dL_law_175 : decode cL_law 175 = .ok (.iload 17, 2) := by decide +kernel
theorem dL_law_177 : decode cL_law 177 = .ok (.ifCond .lt 59, 3) := by decide +kernel
theorem dL_law_180 : decode cL_law 180 = .ok (.iload 17, 2) := by decide +kernel
theorem dL_law_182 : decode cL_law 182 = .ok (.bipush 12, 2) := by decide +kernel
theorem dL_law_184 : decode cL_law 184 = .ok (.if_icmp .gt 52, 3) := by decide +kernel
theorem dL_law_187 : decode cL_law 187 = .ok (.iload 16, 2) := by decide +kernel
theorem dL_law_189 : decode cL_law 189 = .ok (.ifCond .ne 8, 3) := by decide +kernel
theorem dL_law_192 : decode cL_law 192 = .ok (.iload 17, 2) := by decide +kernel
theorem dL_law_194 : decode cL_law 194 = .ok (.ifCond .gt 42, 3) := by decide +kernel
theorem dL_law_197 : decode cL_law 197 = .ok (.aload_n 1, 1) := by decide +kernel
theorem dL_law_198 : decode cL_law 198 = .ok (.iload 14, 2) := by decide +kernel
theorem dL_law_200 : decode cL_law 200 = .ok (.invokevirtual 136, 3) := by decide +kernel
theorem dL_law_203 : decode cL_law 203 = .ok (.iload 16, 2) := by decide +kernel
theorem dL_law_205 : decode cL_law 205 = .ok (.ifCond .eq 12, 3) := by decide +kernel
theorem dL_law_208 : decode cL_law 208 = .ok (.iload 17, 2) := by decide +kernel
theorem dL_law_210 : decode cL_law 210 = .ok (.ifCond .ne 7, 3) := by decide +kernel
theorem dL_law_213 : decode cL_law 213 = .ok (.iconst 1, 1) := by decide +kernel
theorem dL_law_214 : decode cL_law 214 = .ok (.goto 4, 3) := by decide +kernel
theorem dL_law_217 : decode cL_law 217 = .ok (.iconst 0, 1) := by decide +kernel
theorem dL_law_218 : decode cL_law 218 = .ok (.if_icmp .ne 18, 3) := by decide +kernel
theorem dL_law_221 : decode cL_law 221 = .ok (.aload_n 1, 1) := by decide +kernel
theorem dL_law_222 : decode cL_law 222 = .ok (.iload 14, 2) := by decide +kernel
theorem dL_law_224 : decode cL_law 224 = .ok (.invokevirtual 139, 3) := by decide +kernel
theorem dL_law_227 : decode cL_law 227 = .ok (.aload_n 1, 1) := by decide +kernel
theorem dL_law_228 : decode cL_law 228 = .ok (.iload 15, 2) := by decide +kernel
theorem dL_law_230 : decode cL_law 230 = .ok (.invokevirtual 142, 3) := by decide +kernel
theorem dL_law_233 : decode cL_law 233 = .ok (.if_icmp .lt 5, 3) := by decide +kernel
theorem dL_law_236 : decode cL_law 236 = .ok (.iconst 0, 1) := by decide +kernel
theorem dL_law_237 : decode cL_law 237 = .ok (.ireturn, 1) := by decide +kernel
theorem dL_law_238 : decode cL_law 238 = .ok (.aload 8, 2) := by decide +kernel
theorem dL_law_240 : decode cL_law 240 = .ok (.iload 15, 2) := by decide +kernel
theorem dL_law_242 : decode cL_law 242 = .ok (.dup2, 1) := by decide +kernel
theorem dL_law_243 : decode cL_law 243 = .ok (.iaload, 1) := by decide +kernel
theorem dL_law_244 : decode cL_law 244 = .ok (.aload_n 1, 1) := by decide +kernel
theorem dL_law_245 : decode cL_law 245 = .ok (.iload 14, 2) := by decide +kernel
theorem dL_law_247 : decode cL_law 247 = .ok (.invokevirtual 145, 3) := by decide +kernel
theorem dL_law_250 : decode cL_law 250 = .ok (.ifCond .eq 7, 3) := by decide +kernel
theorem dL_law_253 : decode cL_law 253 = .ok (.iconst 1, 1) := by decide +kernel
theorem dL_law_254 : decode cL_law 254 = .ok (.goto 4, 3) := by decide +kernel
theorem dL_law_257 : decode cL_law 257 = .ok (.iconst 0, 1) := by decide +kernel
theorem dL_law_258 : decode cL_law 258 = .ok (.iadd, 1) := by decide +kernel
theorem dL_law_259 : decode cL_law 259 = .ok (.iastore, 1) := by decide +kernel
theorem dL_law_260 : decode cL_law 260 = .ok (.aload 9, 2) := by decide +kernel
theorem dL_law_262 : decode cL_law 262 = .ok (.iload 15, 2) := by decide +kernel
theorem dL_law_264 : decode cL_law 264 = .ok (.dup2, 1) := by decide +kernel
theorem dL_law_265 : decode cL_law 265 = .ok (.iaload, 1) := by decide +kernel
theorem dL_law_266 : decode cL_law 266 = .ok (.aload_n 1, 1) := by decide +kernel
theorem dL_law_267 : decode cL_law 267 = .ok (.iload 14, 2) := by decide +kernel
theorem dL_law_269 : decode cL_law 269 = .ok (.invokevirtual 145, 3) := by decide +kernel
theorem dL_law_272 : decode cL_law 272 = .ok (.ifCond .eq 16, 3) := by decide +kernel
theorem dL_law_275 : decode cL_law 275 = .ok (.aload_n 1, 1) := by decide +kernel
theorem dL_law_276 : decode cL_law 276 = .ok (.iload 14, 2) := by decide +kernel
theorem dL_law_278 : decode cL_law 278 = .ok (.invokevirtual 148, 3) := by decide +kernel
theorem dL_law_281 : decode cL_law 281 = .ok (.ifCond .eq 7, 3) := by decide +kernel
theorem dL_law_284 : decode cL_law 284 = .ok (.iconst 1, 1) := by decide +kernel
theorem dL_law_285 : decode cL_law 285 = .ok (.goto 4, 3) := by decide +kernel
theorem dL_law_288 : decode cL_law 288 = .ok (.iconst 0, 1) := by decide +kernel
theorem dL_law_289 : decode cL_law 289 = .ok (.iadd, 1) := by decide +kernel
theorem dL_law_290 : decode cL_law 290 = .ok (.iastore, 1) := by decide +kernel
theorem dL_law_291 : decode cL_law 291 = .ok (.iload 11, 2) := by decide +kernel
theorem dL_law_293 : decode cL_law 293 = .ok (.aload_n 1, 1) := by decide +kernel
theorem dL_law_294 : decode cL_law 294 = .ok (.iload 14, 2) := by decide +kernel
theorem dL_law_296 : decode cL_law 296 = .ok (.invokevirtual 136, 3) := by decide +kernel
theorem dL_law_299 : decode cL_law 299 = .ok (.ifCond .eq 7, 3) := by decide +kernel
theorem dL_law_302 : decode cL_law 302 = .ok (.iconst 1, 1) := by decide +kernel
theorem dL_law_303 : decode cL_law 303 = .ok (.goto 4, 3) := by decide +kernel
theorem dL_law_306 : decode cL_law 306 = .ok (.iconst 0, 1) := by decide +kernel
theorem dL_law_307 : decode cL_law 307 = .ok (.iadd, 1) := by decide +kernel
theorem dL_law_308 : decode cL_law 308 = .ok (.istore 11, 2) := by decide +kernel
theorem dL_law_310 : decode cL_law 310 = .ok (.iload 12, 2) := by decide +kernel
theorem dL_law_312 : decode cL_law 312 = .ok (.aload_n 1, 1) := by decide +kernel
theorem dL_law_313 : decode cL_law 313 = .ok (.iload 15, 2) := by decide +kernel
theorem dL_law_315 : decode cL_law 315 = .ok (.invokevirtual 130, 3) := by decide +kernel
theorem dL_law_318 : decode cL_law 318 = .ok (.ifCond .eq 7, 3) := by decide +kernel
theorem dL_law_321 : decode cL_law 321 = .ok (.iconst 1, 1) := by decide +kernel
theorem dL_law_322 : decode cL_law 322 = .ok (.goto 4, 3) := by decide +kernel
theorem dL_law_325 : decode cL_law 325 = .ok (.iconst 0, 1) := by decide +kernel
theorem dL_law_326 : decode cL_law 326 = .ok (.iadd, 1) := by decide +kernel
theorem dL_law_327 : decode cL_law 327 = .ok (.istore 12, 2) := by decide +kernel
theorem dL_law_329 : decode cL_law 329 = .ok (.iload 13, 2) := by decide +kernel
theorem dL_law_331 : decode cL_law 331 = .ok (.iload 17, 2) := by decide +kernel
theorem dL_law_333 : decode cL_law 333 = .ok (.iadd, 1) := by decide +kernel
theorem dL_law_334 : decode cL_law 334 = .ok (.istore 13, 2) := by decide +kernel
theorem dL_law_336 : decode cL_law 336 = .ok (.iinc 14 1, 3) := by decide +kernel
theorem dL_law_339 : decode cL_law 339 = .ok (.goto (-214), 3) := by decide +kernel
theorem dL_law_342 : decode cL_law 342 = .ok (.iconst 0, 1) := by decide +kernel
theorem dL_law_343 : decode cL_law 343 = .ok (.istore 14, 2) := by decide +kernel
theorem dL_law_345 : decode cL_law 345 = .ok (.iload 14, 2) := by decide +kernel
theorem dL_law_347 : decode cL_law 347 = .ok (.iload 7, 2) := by decide +kernel
theorem dL_law_349 : decode cL_law 349 = .ok (.if_icmp .ge 168, 3) := by decide +kernel
theorem dL_law_352 : decode cL_law 352 = .ok (.aload_n 1, 1) := by decide +kernel
theorem dL_law_353 : decode cL_law 353 = .ok (.iload 14, 2) := by decide +kernel
theorem dL_law_355 : decode cL_law 355 = .ok (.invokevirtual 126, 3) := by decide +kernel
theorem dL_law_358 : decode cL_law 358 = .ok (.ifCond .eq 16, 3) := by decide +kernel
theorem dL_law_361 : decode cL_law 361 = .ok (.aload_n 1, 1) := by decide +kernel
theorem dL_law_362 : decode cL_law 362 = .ok (.iload 14, 2) := by decide +kernel
theorem dL_law_364 : decode cL_law 364 = .ok (.invokevirtual 130, 3) := by decide +kernel
theorem dL_law_367 : decode cL_law 367 = .ok (.ifCond .ne 7, 3) := by decide +kernel
theorem dL_law_370 : decode cL_law 370 = .ok (.iconst 1, 1) := by decide +kernel
theorem dL_law_371 : decode cL_law 371 = .ok (.goto 4, 3) := by decide +kernel
theorem dL_law_374 : decode cL_law 374 = .ok (.iconst 0, 1) := by decide +kernel
theorem dL_law_375 : decode cL_law 375 = .ok (.istore 15, 2) := by decide +kernel
theorem dL_law_377 : decode cL_law 377 = .ok (.aload 10, 2) := by decide +kernel
theorem dL_law_379 : decode cL_law 379 = .ok (.iload 14, 2) := by decide +kernel
theorem dL_law_381 : decode cL_law 381 = .ok (.aload_n 1, 1) := by decide +kernel
theorem dL_law_382 : decode cL_law 382 = .ok (.iload 14, 2) := by decide +kernel
theorem dL_law_384 : decode cL_law 384 = .ok (.invokevirtual 130, 3) := by decide +kernel
theorem dL_law_387 : decode cL_law 387 = .ok (.ifCond .eq 7, 3) := by decide +kernel
theorem dL_law_390 : decode cL_law 390 = .ok (.iconst 1, 1) := by decide +kernel
theorem dL_law_391 : decode cL_law 391 = .ok (.goto 4, 3) := by decide +kernel
theorem dL_law_394 : decode cL_law 394 = .ok (.iconst 0, 1) := by decide +kernel
theorem dL_law_395 : decode cL_law 395 = .ok (.iastore, 1) := by decide +kernel
theorem dL_law_396 : decode cL_law 396 = .ok (.aload_n 1, 1) := by decide +kernel
theorem dL_law_397 : decode cL_law 397 = .ok (.iload 14, 2) := by decide +kernel
theorem dL_law_399 : decode cL_law 399 = .ok (.invokevirtual 130, 3) := by decide +kernel
theorem dL_law_402 : decode cL_law 402 = .ok (.ifCond .eq 12, 3) := by decide +kernel
theorem dL_law_405 : decode cL_law 405 = .ok (.aload_n 1, 1) := by decide +kernel
theorem dL_law_406 : decode cL_law 406 = .ok (.iload 14, 2) := by decide +kernel
theorem dL_law_408 : decode cL_law 408 = .ok (.invokevirtual 126, 3) := by decide +kernel
theorem dL_law_411 : decode cL_law 411 = .ok (.ifCond .eq 98, 3) := by decide +kernel
theorem dL_law_414 : decode cL_law 414 = .ok (.aload_n 1, 1) := by decide +kernel
theorem dL_law_415 : decode cL_law 415 = .ok (.iload 14, 2) := by decide +kernel
theorem dL_law_417 : decode cL_law 417 = .ok (.invokevirtual 151, 3) := by decide +kernel
theorem dL_law_420 : decode cL_law 420 = .ok (.ifCond .eq 19, 3) := by decide +kernel
theorem dL_law_423 : decode cL_law 423 = .ok (.iload 15, 2) := by decide +kernel
theorem dL_law_425 : decode cL_law 425 = .ok (.ifCond .eq 84, 3) := by decide +kernel
theorem dL_law_428 : decode cL_law 428 = .ok (.aload_n 1, 1) := by decide +kernel
theorem dL_law_429 : decode cL_law 429 = .ok (.iload 14, 2) := by decide +kernel
theorem dL_law_431 : decode cL_law 431 = .ok (.invokevirtual 154, 3) := by decide +kernel
theorem dL_law_434 : decode cL_law 434 = .ok (.bipush 6, 2) := by decide +kernel
theorem dL_law_436 : decode cL_law 436 = .ok (.if_icmp .lt 73, 3) := by decide +kernel
theorem dL_law_439 : decode cL_law 439 = .ok (.iload 15, 2) := by decide +kernel
theorem dL_law_441 : decode cL_law 441 = .ok (.ifCond .ne 12, 3) := by decide +kernel
theorem dL_law_444 : decode cL_law 444 = .ok (.aload_n 1, 1) := by decide +kernel
theorem dL_law_445 : decode cL_law 445 = .ok (.iload 14, 2) := by decide +kernel
theorem dL_law_447 : decode cL_law 447 = .ok (.invokevirtual 154, 3) := by decide +kernel
theorem dL_law_450 : decode cL_law 450 = .ok (.ifCond .gt 59, 3) := by decide +kernel
theorem dL_law_453 : decode cL_law 453 = .ok (.aload_n 1, 1) := by decide +kernel
theorem dL_law_454 : decode cL_law 454 = .ok (.iload 14, 2) := by decide +kernel
theorem dL_law_456 : decode cL_law 456 = .ok (.invokevirtual 155, 3) := by decide +kernel
theorem dL_law_459 : decode cL_law 459 = .ok (.aload 8, 2) := by decide +kernel
theorem dL_law_461 : decode cL_law 461 = .ok (.iload 14, 2) := by decide +kernel
theorem dL_law_463 : decode cL_law 463 = .ok (.iaload, 1) := by decide +kernel
theorem dL_law_464 : decode cL_law 464 = .ok (.if_icmp .ne 45, 3) := by decide +kernel
theorem dL_law_467 : decode cL_law 467 = .ok (.aload_n 1, 1) := by decide +kernel
theorem dL_law_468 : decode cL_law 468 = .ok (.iload 14, 2) := by decide +kernel
theorem dL_law_470 : decode cL_law 470 = .ok (.invokevirtual 158, 3) := by decide +kernel
theorem dL_law_473 : decode cL_law 473 = .ok (.aload 9, 2) := by decide +kernel
