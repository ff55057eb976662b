theorem dX2_at_7 : decode cX2_at 7 = .ok (.if_icmp .ge 9, 3) := by decide +kernel
theorem dX2_at_10 : decode cX2_at 10 = .ok (.aload_n 0, 1) := by decide +kernel
theorem dX2_at_11 : decode cX2_at 11 = .ok (.iload_n 1, 1) := by decide +kernel
theorem dX2_at_12 : decode cX2_at 12 = .ok (.iaload, 1) := by decide +kernel
theorem dX2_at_13 : decode cX2_at 13 = .ok (.goto 4, 3) := by decide +kernel
theorem dX2_at_16 : decode cX2_at 16 = .ok (.iconst 0, 1) := by decide +kernel
theorem dX2_at_17 : decode cX2_at 17 = .ok (.ireturn, 1) := by decide +kernel
theorem dX2_is_0 : decode cX2_is 0 = .ok (.iload_n 1, 1) := by decide +kernel
theorem dX2_is_1 : decode cX2_is 1 = .ok (.ifCond .lt 19, 3) := by decide +kernel
theorem dX2_is_4 : decode cX2_is 4 = .ok (.iload_n 1, 1) := by decide +kernel
theorem dX2_is_5 : decode cX2_is 5 = .ok (.aload_n 0, 1) := by decide +kernel
theorem dX2_is_6 : decode cX2_is 6 = .ok (.arraylength, 1) := by decide +kernel
theorem dX2_is_7 : decode cX2_is 7 = .ok (.if_icmp .ge 13, 3) := by decide +kernel
theorem dX2_is_10 : decode cX2_is 10 = .ok (.aload_n 0, 1) := by decide +kernel
theorem dX2_is_11 : decode cX2_is 11 = .ok (.iload_n 1, 1) := by decide +kernel
theorem dX2_is_12 : decode cX2_is 12 = .ok (.baload, 1) := by decide +kernel
theorem dX2_is_13 : decode cX2_is 13 = .ok (.ifCond .eq 7, 3) := by decide +kernel
theorem dX2_is_16 : decode cX2_is 16 = .ok (.iconst 1, 1) := by decide +kernel
theorem dX2_is_17 : decode cX2_is 17 = .ok (.goto 4, 3) := by decide +kernel
theorem dX2_is_20 : decode cX2_is 20 = .ok (.iconst 0, 1) := by decide +kernel
theorem dX2_is_21 : decode cX2_is 21 = .ok (.ireturn, 1) := by decide +kernel
theorem dX2_put_0 : decode cX2_put 0 = .ok (.iload_n 1, 1) := by decide +kernel
theorem dX2_put_1 : decode cX2_put 1 = .ok (.ifCond .lt 13, 3) := by decide +kernel
theorem dX2_put_4 : decode cX2_put 4 = .ok (.iload_n 1, 1) := by decide +kernel
theorem dX2_put_5 : decode cX2_put 5 = .ok (.aload_n 0, 1) := by decide +kernel
theorem dX2_put_6 : decode cX2_put 6 = .ok (.arraylength, 1) := by decide +kernel
theorem dX2_put_7 : decode cX2_put 7 = .ok (.if_icmp .ge 7, 3) := by decide +kernel
theorem dX2_put_10 : decode cX2_put 10 = .ok (.aload_n 0, 1) := by decide +kernel
theorem dX2_put_11 : decode cX2_put 11 = .ok (.iload_n 1, 1) := by decide +kernel
theorem dX2_put_12 : decode cX2_put 12 = .ok (.iload_n 2, 1) := by decide +kernel
theorem dX2_put_13 : decode cX2_put 13 = .ok (.iastore, 1) := by decide +kernel
theorem dX2_put_14 : decode cX2_put 14 = .ok (.return_, 1) := by decide +kernel
theorem dX2_mark_0 : decode cX2_mark 0 = .ok (.iload_n 1, 1) := by decide +kernel
theorem dX2_mark_1 : decode cX2_mark 1 = .ok (.ifCond .lt 13, 3) := by decide +kernel
theorem dX2_mark_4 : decode cX2_mark 4 = .ok (.iload_n 1, 1) := by decide +kernel
theorem dX2_mark_5 : decode cX2_mark 5 = .ok (.aload_n 0, 1) := by decide +kernel
theorem dX2_mark_6 : decode cX2_mark 6 = .ok (.arraylength, 1) := by decide +kernel
theorem dX2_mark_7 : decode cX2_mark 7 = .ok (.if_icmp .ge 7, 3) := by decide +kernel
theorem dX2_mark_10 : decode cX2_mark 10 = .ok (.aload_n 0, 1) := by decide +kernel
theorem dX2_mark_11 : decode cX2_mark 11 = .ok (.iload_n 1, 1) := by decide +kernel
theorem dX2_mark_12 : decode cX2_mark 12 = .ok (.iload_n 2, 1) := by decide +kernel
theorem dX2_mark_13 : decode cX2_mark 13 = .ok (.bastore, 1) := by decide +kernel
theorem dX2_mark_14 : decode cX2_mark 14 = .ok (.return_, 1) := by decide +kernel
theorem dX2_copyRow_0 : decode cX2_copyRow 0 = .ok (.iconst 0, 1) := by decide +kernel
theorem dX2_copyRow_1 : decode cX2_copyRow 1 = .ok (.istore_n 2, 1) := by decide +kernel
theorem dX2_copyRow_2 : decode cX2_copyRow 2 = .ok (.iload_n 2, 1) := by decide +kernel
theorem dX2_copyRow_3 : decode cX2_copyRow 3 = .ok (.aload_n 0, 1) := by decide +kernel
theorem dX2_copyRow_4 : decode cX2_copyRow 4 = .ok (.arraylength, 1) := by decide +kernel
theorem dX2_copyRow_5 : decode cX2_copyRow 5 = .ok (.if_icmp .ge 21, 3) := by decide +kernel
theorem dX2_copyRow_8 : decode cX2_copyRow 8 = .ok (.iload_n 2, 1) := by decide +kernel
theorem dX2_copyRow_9 : decode cX2_copyRow 9 = .ok (.aload_n 1, 1) := by decide +kernel
theorem dX2_copyRow_10 : decode cX2_copyRow 10 = .ok (.arraylength, 1) := by decide +kernel
theorem dX2_copyRow_11 : decode cX2_copyRow 11 = .ok (.if_icmp .ge 15, 3) := by decide +kernel
theorem dX2_copyRow_14 : decode cX2_copyRow 14 = .ok (.aload_n 1, 1) := by decide +kernel
theorem dX2_copyRow_15 : decode cX2_copyRow 15 = .ok (.iload_n 2, 1) := by decide +kernel
theorem dX2_copyRow_16 : decode cX2_copyRow 16 = .ok (.aload_n 0, 1) := by decide +kernel
theorem dX2_copyRow_17 : decode cX2_copyRow 17 = .ok (.iload_n 2, 1) := by decide +kernel
theorem dX2_copyRow_18 : decode cX2_copyRow 18 = .ok (.iaload, 1) := by decide +kernel
theorem dX2_copyRow_19 : decode cX2_copyRow 19 = .ok (.iastore, 1) := by decide +kernel
theorem dX2_copyRow_20 : decode cX2_copyRow 20 = .ok (.iinc 2 1, 3) := by decide +kernel
theorem dX2_copyRow_23 : decode cX2_copyRow 23 = .ok (.goto (-21), 3) := by decide +kernel
theorem dX2_copyRow_26 : decode cX2_copyRow 26 = .ok (.return_, 1) := by decide +kernel
theorem dX2_copyMarks_0 : decode cX2_copyMarks 0 = .ok (.iconst 0, 1) := by decide +kernel
theorem dX2_copyMarks_1 : decode cX2_copyMarks 1 = .ok (.istore_n 2, 1) := by decide +kernel
theorem dX2_copyMarks_2 : decode cX2_copyMarks 2 = .ok (.iload_n 2, 1) := by decide +kernel
theorem dX2_copyMarks_3 : decode cX2_copyMarks 3 = .ok (.aload_n 0, 1) := by decide +kernel
theorem dX2_copyMarks_4 : decode cX2_copyMarks 4 = .ok (.arraylength, 1) := by decide +kernel
theorem dX2_copyMarks_5 : decode cX2_copyMarks 5 = .ok (.if_icmp .ge 21, 3) := by decide +kernel
theorem dX2_copyMarks_8 : decode cX2_copyMarks 8 = .ok (.iload_n 2, 1) := by decide +kernel
theorem dX2_copyMarks_9 : decode cX2_copyMarks 9 = .ok (.aload_n 1, 1) := by decide +kernel
theorem dX2_copyMarks_10 : decode cX2_copyMarks 10 = .ok (.arraylength, 1) := by decide +kernel
theorem dX2_copyMarks_11 : decode cX2_copyMarks 11 = .ok (.if_icmp .ge 15, 3) := by decide +kernel
theorem dX2_copyMarks_14 : decode cX2_copyMarks 14 = .ok (.aload_n 1, 1) := by decide +kernel
theorem dX2_copyMarks_15 : decode cX2_copyMarks 15 = .ok (.iload_n 2, 1) := by decide +kernel
theorem dX2_copyMarks_16 : decode cX2_copyMarks 16 = .ok (.aload_n 0, 1) := by decide +kernel
theorem dX2_copyMarks_17 : decode cX2_copyMarks 17 = .ok (.iload_n 2, 1) := by decide +kernel
theorem dX2_copyMarks_18 : decode cX2_copyMarks 18 = .ok (.baload, 1) := by decide +kernel
theorem dX2_copyMarks_19 : decode cX2_copyMarks 19 = .ok (.bastore, 1) := by decide +kernel
theorem dX2_copyMarks_20 : decode cX2_copyMarks 20 = .ok (.iinc 2 1, 3) := by decide +kernel
theorem dX2_copyMarks_23 : decode cX2_copyMarks 23 = .ok (.goto (-21), 3) := by decide +kernel
theorem dX2_copyMarks_26 : decode cX2_copyMarks 26 = .ok (.return_, 1) := by decide +kernel
theorem dX3_init_0 : decode cX3_init 0 = .ok (.aload_n 0, 1) := by decide +kernel
theorem dX3_init_1 : decode cX3_init 1 = .ok (.invokespecial 3, 3) := by decide +kernel
theorem dX3_init_4 : decode cX3_init 4 = .ok (.aload_n 0, 1) := by decide +kernel
theorem dX3_init_5 : decode cX3_init 5 = .ok (.iconst 5, 1) := by decide +kernel
theorem dX3_init_6 : decode cX3_init 6 = .ok (.newarray .int, 2) := by decide +kernel
theorem dX3_init_8 : decode cX3_init 8 = .ok (.putfield 9, 3) := by decide +kernel
theorem dX3_init_11 : decode cX3_init 11 = .ok (.aload_n 0, 1) := by decide +kernel
theorem dX3_init_12 : decode cX3_init 12 = .ok (.bipush 16, 2) := by decide +kernel
theorem dX3_init_14 : decode cX3_init 14 = .ok (.newarray .int, 2) := by decide +kernel
theorem dX3_init_16 : decode cX3_init 16 = .ok (.putfield 13, 3) := by decide +kernel
theorem dX3_init_19 : decode cX3_init 19 = .ok (.aload_n 0, 1) := by decide +kernel
theorem dX3_init_20 : decode cX3_init 20 = .ok (.bipush 16, 2) := by decide +kernel
theorem dX3_init_22 : decode cX3_init 22 = .ok (.newarray .int, 2) := by decide +kernel
theorem dX3_init_24 : decode cX3_init 24 = .ok (.putfield 16, 3) := by decide +kernel
theorem dX3_init_27 : decode cX3_init 27 = .ok (.aload_n 0, 1) := by decide +kernel
theorem dX3_init_28 : decode cX3_init 28 = .ok (.bipush 16, 2) := by decide +kernel
theorem dX3_init_30 : decode cX3_init 30 = .ok (.newarray .boolean, 2) := by decide +kernel
theorem dX3_init_32 : decode cX3_init 32 = .ok (.putfield 19, 3) := by decide +kernel
theorem dX3_init_35 : decode cX3_init 35 = .ok (.aload_n 0, 1) := by decide +kernel
theorem dX3_init_36 : decode cX3_init 36 = .ok (.bipush 74, 2) := by decide +kernel
theorem dX3_init_38 : decode cX3_init 38 = .ok (.newarray .int, 2) := by decide +kernel
theorem dX3_init_40 : decode cX3_init 40 = .ok (.putfield 23, 3) := by decide +kernel
theorem dX3_init_43 : decode cX3_init 43 = .ok (.aload_n 0, 1) := by decide +kernel
theorem dX3_init_44 : decode cX3_init 44 = .ok (.bipush 74, 2) := by decide +kernel
theorem dX3_init_46 : decode cX3_init 46 = .ok (.newarray .int, 2) := by decide +kernel
theorem dX3_init_48 : decode cX3_init 48 = .ok (.putfield 26, 3) := by decide +kernel
theorem dX3_init_51 : decode cX3_init 51 = .ok (.bipush 54, 2) := by decide +kernel
theorem dX3_init_53 : decode cX3_init 53 = .ok (.istore_n 1, 1) := by decide +kernel
theorem dX3_init_54 : decode cX3_init 54 = .ok (.iload_n 1, 1) := by decide +kernel
theorem dX3_init_55 : decode cX3_init 55 = .ok (.bipush 74, 2) := by decide +kernel
theorem dX3_init_57 : decode cX3_init 57 = .ok (.if_icmp .ge 16, 3) := by decide +kernel
theorem dX3_init_60 : decode cX3_init 60 = .ok (.aload_n 0, 1) := by decide +kernel
theorem dX3_init_61 : decode cX3_init 61 = .ok (.getfield 23, 3) := by decide +kernel
theorem dX3_init_64 : decode cX3_init 64 = .ok (.iload_n 1, 1) := by decide +kernel
theorem dX3_init_65 : decode cX3_init 65 = .ok (.iconst (-1), 1) := by decide +kernel
theorem dX3_init_66 : decode cX3_init 66 = .ok (.iastore, 1) := by decide +kernel
theorem dX3_init_67 : decode cX3_init 67 = .ok (.iinc 1 1, 3) := by decide +kernel
theorem dX3_init_70 : decode cX3_init 70 = .ok (.goto (-16), 3) := by decide +kernel
theorem dX3_init_73 : decode cX3_init 73 = .ok (.return_, 1) := by decide +kernel
theorem dX3_thrown_0 : decode cX3_thrown 0 = .ok (.aload_n 0, 1) := by decide +kernel
theorem dX3_thrown_1 : decode cX3_thrown 1 = .ok (.getfield 29, 3) := by decide +kernel
theorem dX3_thrown_4 : decode cX3_thrown 4 = .ok (.ireturn, 1) := by decide +kernel
theorem dX3_no_0 : decode cX3_no 0 = .ok (.aload_n 0, 1) := by decide +kernel
theorem dX3_no_1 : decode cX3_no 1 = .ok (.iload_n 1, 1) := by decide +kernel
theorem dX3_no_2 : decode cX3_no 2 = .ok (.putfield 29, 3) := by decide +kernel
theorem dX3_no_5 : decode cX3_no 5 = .ok (.iconst 0, 1) := by decide +kernel
theorem dX3_no_6 : decode cX3_no 6 = .ok (.ireturn, 1) := by decide +kernel
theorem dX3_isNot_0 : decode cX3_isNot 0 = .ok (.aload_n 0, 1) := by decide +kernel
theorem dX3_isNot_1 : decode cX3_isNot 1 = .ok (.iload_n 1, 1) := by decide +kernel
theorem dX3_isNot_2 : decode cX3_isNot 2 = .ok (.putfield 29, 3) := by decide +kernel
theorem dX3_isNot_5 : decode cX3_isNot 5 = .ok (.iconst 0, 1) := by decide +kernel
theorem dX3_isNot_6 : decode cX3_isNot 6 = .ok (.ireturn, 1) := by decide +kernel
theorem dX3_isIn_0 : decode cX3_isIn 0 = .ok (.iload_n 0, 1) := by decide +kernel
theorem dX3_isIn_1 : decode cX3_isIn 1 = .ok (.iload_n 1, 1) := by decide +kernel
theorem dX3_isIn_2 : decode cX3_isIn 2 = .ok (.if_icmp .lt 12, 3) := by decide +kernel
theorem dX3_isIn_5 : decode cX3_isIn 5 = .ok (.iload_n 0, 1) := by decide +kernel
theorem dX3_isIn_6 : decode cX3_isIn 6 = .ok (.iload_n 2, 1) := by decide +kernel
theorem dX3_isIn_7 : decode cX3_isIn 7 = .ok (.if_icmp .gt 7, 3) := by decide +kernel
theorem dX3_isIn_10 : decode cX3_isIn 10 = .ok (.iconst 1, 1) := by decide +kernel
theorem dX3_isIn_11 : decode cX3_isIn 11 = .ok (.goto 4, 3) := by decide +kernel
theorem dX3_isIn_14 : decode cX3_isIn 14 = .ok (.iconst 0, 1) := by decide +kernel
theorem dX3_isIn_15 : decode cX3_isIn 15 = .ok (.ireturn, 1) := by decide +kernel
set_option maxRecDepth 20000 in
theorem ggX3_isShip_X3_isIn : GoodIn wsX3_isShip wsX3_isIn := goodIn_r _ [5] (by decide +kernel) (by decide +kernel)
set_option maxRecDepth 20000 in
theorem gX3_isShip_X3_isIn : GoodIn wsX3_isShip (va_wsS RX3 36 yX3_isIn wsX3_isIn) := goodIn_app (goodIn_of _ (by decide +kernel)) ggX3_isShip_X3_isIn
theorem dX3_isShip_0 : decode cX3_isShip 0 = .ok (.iload_n 1, 1) := by decide +kernel
theorem dX3_isShip_1 : decode cX3_isShip 1 = .ok (.iconst 0, 1) := by decide +kernel
theorem dX3_isShip_2 : decode cX3_isShip 2 = .ok (.aload_n 0, 1) := by decide +kernel
theorem dX3_isShip_3 : decode cX3_isShip 3 = .ok (.getfield 33, 3) := by decide +kernel
theorem dX3_isShip_6 : decode cX3_isShip 6 = .ok (.iconst 1, 1) := by decide +kernel
theorem dX3_isShip_7 : decode cX3_isShip 7 = .ok (.isub, 1) := by decide +kernel
theorem dX3_isShip_8 : decode cX3_isShip 8 = .ok (.invokestatic 36, 3) := by decide +kernel
theorem dX3_isShip_11 : decode cX3_isShip 11 = .ok (.ireturn, 1) := by decide +kernel
set_option maxRecDepth 20000 in
theorem ggX3_isSailor_X3_isIn : GoodIn wsX3_isSailor wsX3_isIn := goodIn_r _ [5] (by decide +kernel) (by decide +kernel)
set_option maxRecDepth 20000 in
theorem gX3_isSailor_X3_isIn : GoodIn wsX3_isSailor (va_wsS RX3 36 yX3_isIn wsX3_isIn) := goodIn_app (goodIn_of _ (by decide +kernel)) ggX3_isSailor_X3_isIn
theorem dX3_isSailor_0 : decode cX3_isSailor 0 = .ok (.iload_n 1, 1) := by decide +kernel
theorem dX3_isSailor_1 : decode cX3_isSailor 1 = .ok (.iconst 0, 1) := by decide +kernel
theorem dX3_isSailor_2 : decode cX3_isSailor 2 = .ok (.aload_n 0, 1) := by decide +kernel
theorem dX3_isSailor_3 : decode cX3_isSailor 3 = .ok (.getfield 40, 3) := by decide +kernel
theorem dX3_isSailor_6 : decode cX3_isSailor 6 = .ok (.iconst 1, 1) := by decide +kernel
theorem dX3_isSailor_7 : decode cX3_isSailor 7 = .ok (.isub, 1) := by decide +kernel
theorem dX3_isSailor_8 : decode cX3_isSailor 8 = .ok (.invokestatic 36, 3) := by decide +kernel
theorem dX3_isSailor_11 : decode cX3_isSailor 11 = .ok (.ireturn, 1) := by decide +kernel
set_option maxRecDepth 20000 in
theorem ggX3_isWatcher_X3_isIn : GoodIn wsX3_isWatcher wsX3_isIn := goodIn_r _ [5] (by decide +kernel) (by decide +kernel)
set_option maxRecDepth 20000 in
theorem gX3_isWatcher_X3_isIn : GoodIn wsX3_isWatcher (va_wsS RX3 36 yX3_isIn wsX3_isIn) := goodIn_app (goodIn_of _ (by decide +kernel)) ggX3_isWatcher_X3_isIn
theorem dX3_isWatcher_0 : decode cX3_isWatcher 0 = .ok (.iload_n 1, 1) := by decide +kernel
theorem dX3_isWatcher_1 : decode cX3_isWatcher 1 = .ok (.iconst 0, 1) := by decide +kernel
theorem dX3_isWatcher_2 : decode cX3_isWatcher 2 = .ok (.aload_n 0, 1) := by decide +kernel
theorem dX3_isWatcher_3 : decode cX3_isWatcher 3 = .ok (.getfield 43, 3) := by decide +kernel
theorem dX3_isWatcher_6 : decode cX3_isWatcher 6 = .ok (.iconst 1, 1) := by decide +kernel
theorem dX3_isWatcher_7 : decode cX3_isWatcher 7 = .ok (.isub, 1) := by decide +kernel
theorem dX3_isWatcher_8 : decode cX3_isWatcher 8 = .ok (.invokestatic 36, 3) := by decide +kernel
theorem dX3_isWatcher_11 : decode cX3_isWatcher 11 = .ok (.ireturn, 1) := by decide +kernel
theorem dX3_ship_0 : decode cX3_ship 0 = .ok (.iconst 3, 1) := by decide +kernel
theorem dX3_ship_1 : decode cX3_ship 1 = .ok (.iconst 3, 1) := by decide +kernel
theorem dX3_ship_2 : decode cX3_ship 2 = .ok (.iload_n 0, 1) := by decide +kernel
theorem dX3_ship_3 : decode cX3_ship 3 = .ok (.imul, 1) := by decide +kernel
theorem dX3_ship_4 : decode cX3_ship 4 = .ok (.iadd, 1) := by decide +kernel
theorem dX3_ship_5 : decode cX3_ship 5 = .ok (.iload_n 1, 1) := by decide +kernel
theorem dX3_ship_6 : decode cX3_ship 6 = .ok (.iadd, 1) := by decide +kernel
theorem dX3_ship_7 : decode cX3_ship 7 = .ok (.ireturn, 1) := by decide +kernel
theorem dX3_sailor_0 : decode cX3_sailor 0 = .ok (.bipush 18, 2) := by decide +kernel
theorem dX3_sailor_2 : decode cX3_sailor 2 = .ok (.iconst 2, 1) := by decide +kernel
theorem dX3_sailor_3 : decode cX3_sailor 3 = .ok (.iload_n 0, 1) := by decide +kernel
theorem dX3_sailor_4 : decode cX3_sailor 4 = .ok (.imul, 1) := by decide +kernel
theorem dX3_sailor_5 : decode cX3_sailor 5 = .ok (.iadd, 1) := by decide +kernel
theorem dX3_sailor_6 : decode cX3_sailor 6 = .ok (.iload_n 1, 1) := by decide +kernel
theorem dX3_sailor_7 : decode cX3_sailor 7 = .ok (.iadd, 1) := by decide +kernel
theorem dX3_sailor_8 : decode cX3_sailor 8 = .ok (.ireturn, 1) := by decide +kernel
theorem dX3_sighting_0 : decode cX3_sighting 0 = .ok (.bipush 54, 2) := by decide +kernel
theorem dX3_sighting_2 : decode cX3_sighting 2 = .ok (.iconst 5, 1) := by decide +kernel
theorem dX3_sighting_3 : decode cX3_sighting 3 = .ok (.iload_n 0, 1) := by decide +kernel
theorem dX3_sighting_4 : decode cX3_sighting 4 = .ok (.imul, 1) := by decide +kernel
theorem dX3_sighting_5 : decode cX3_sighting 5 = .ok (.iadd, 1) := by decide +kernel
theorem dX3_sighting_6 : decode cX3_sighting 6 = .ok (.iload_n 1, 1) := by decide +kernel
theorem dX3_sighting_7 : decode cX3_sighting 7 = .ok (.iadd, 1) := by decide +kernel
theorem dX3_sighting_8 : decode cX3_sighting 8 = .ok (.ireturn, 1) := by decide +kernel
set_option maxRecDepth 20000 in
theorem ggX3_isOut_X3_ship : GoodIn wsX3_isOut wsX3_ship := goodIn_r _ [5] (by decide +kernel) (by decide +kernel)
set_option maxRecDepth 20000 in
theorem gX3_isOut_X3_ship : GoodIn wsX3_isOut (va_wsS RX3 46 yX3_ship wsX3_ship) := goodIn_app (goodIn_of _ (by decide +kernel)) ggX3_isOut_X3_ship
theorem dX3_isOut_0 : decode cX3_isOut 0 = .ok (.aload_n 0, 1) := by decide +kernel
theorem dX3_isOut_1 : decode cX3_isOut 1 = .ok (.getfield 23, 3) := by decide +kernel
theorem dX3_isOut_4 : decode cX3_isOut 4 = .ok (.iload_n 1, 1) := by decide +kernel
theorem dX3_isOut_5 : decode cX3_isOut 5 = .ok (.iconst 0, 1) := by decide +kernel
theorem dX3_isOut_6 : decode cX3_isOut 6 = .ok (.invokestatic 46, 3) := by decide +kernel
theorem dX3_isOut_9 : decode cX3_isOut 9 = .ok (.iaload, 1) := by decide +kernel
theorem dX3_isOut_10 : decode cX3_isOut 10 = .ok (.iconst 1, 1) := by decide +kernel
theorem dX3_isOut_11 : decode cX3_isOut 11 = .ok (.if_icmp .ne 7, 3) := by decide +kernel
theorem dX3_isOut_14 : decode cX3_isOut 14 = .ok (.iconst 1, 1) := by decide +kernel
theorem dX3_isOut_15 : decode cX3_isOut 15 = .ok (.goto 4, 3) := by decide +kernel
theorem dX3_isOut_18 : decode cX3_isOut 18 = .ok (.iconst 0, 1) := by decide +kernel
theorem dX3_isOut_19 : decode cX3_isOut 19 = .ok (.ireturn, 1) := by decide +kernel
theorem dX3_keep_0 : decode cX3_keep 0 = .ok (.aload_n 0, 1) := by decide +kernel
theorem dX3_keep_1 : decode cX3_keep 1 = .ok (.getfield 23, 3) := by decide +kernel
theorem dX3_keep_4 : decode cX3_keep 4 = .ok (.iconst 0, 1) := by decide +kernel
theorem dX3_keep_5 : decode cX3_keep 5 = .ok (.aload_n 0, 1) := by decide +kernel
theorem dX3_keep_6 : decode cX3_keep 6 = .ok (.getfield 26, 3) := by decide +kernel
theorem dX3_keep_9 : decode cX3_keep 9 = .ok (.iconst 0, 1) := by decide +kernel
theorem dX3_keep_10 : decode cX3_keep 10 = .ok (.bipush 74, 2) := by decide +kernel
theorem dX3_keep_12 : decode cX3_keep 12 = .ok (.invokestatic 50, 3) := by decide +kernel
theorem dX3_keep_15 : decode cX3_keep 15 = .ok (.return_, 1) := by decide +kernel
theorem dX3_bringBack_0 : decode cX3_bringBack 0 = .ok (.aload_n 0, 1) := by decide +kernel
theorem dX3_bringBack_1 : decode cX3_bringBack 1 = .ok (.getfield 26, 3) := by decide +kernel
theorem dX3_bringBack_4 : decode cX3_bringBack 4 = .ok (.iconst 0, 1) := by decide +kernel
theorem dX3_bringBack_5 : decode cX3_bringBack 5 = .ok (.aload_n 0, 1) := by decide +kernel
theorem dX3_bringBack_6 : decode cX3_bringBack 6 = .ok (.getfield 23, 3) := by decide +kernel
theorem dX3_bringBack_9 : decode cX3_bringBack 9 = .ok (.iconst 0, 1) := by decide +kernel
theorem dX3_bringBack_10 : decode cX3_bringBack 10 = .ok (.bipush 74, 2) := by decide +kernel
theorem dX3_bringBack_12 : decode cX3_bringBack 12 = .ok (.invokestatic 50, 3) := by decide +kernel
theorem dX3_bringBack_15 : decode cX3_bringBack 15 = .ok (.return_, 1) := by decide +kernel
set_option maxRecDepth 20000 in
theorem ggX3_trust_X3_sighting : GoodIn wsX3_trust wsX3_sighting := goodIn_r _ [6] (by decide +kernel) (by decide +kernel)
set_option maxRecDepth 20000 in
theorem gX3_trust_X3_sighting : GoodIn wsX3_trust (va_wsS RX3 56 yX3_sighting wsX3_sighting) := goodIn_app (goodIn_of _ (by decide +kernel)) ggX3_trust_X3_sighting
theorem dX3_trust_0 : decode cX3_trust 0 = .ok (.iconst 0, 1) := by decide +kernel
theorem dX3_trust_1 : decode cX3_trust 1 = .ok (.istore_n 2, 1) := by decide +kernel
theorem dX3_trust_2 : decode cX3_trust 2 = .ok (.iconst 0, 1) := by decide +kernel
theorem dX3_trust_3 : decode cX3_trust 3 = .ok (.istore_n 3, 1) := by decide +kernel
theorem dX3_trust_4 : decode cX3_trust 4 = .ok (.iload_n 3, 1) := by decide +kernel
theorem dX3_trust_5 : decode cX3_trust 5 = .ok (.aload_n 0, 1) := by decide +kernel
theorem dX3_trust_6 : decode cX3_trust 6 = .ok (.getfield 43, 3) := by decide +kernel
theorem dX3_trust_9 : decode cX3_trust 9 = .ok (.if_icmp .ge 39, 3) := by decide +kernel
theorem dX3_trust_12 : decode cX3_trust 12 = .ok (.iload_n 2, 1) := by decide +kernel
theorem dX3_trust_13 : decode cX3_trust 13 = .ok (.aload_n 0, 1) := by decide +kernel
theorem dX3_trust_14 : decode cX3_trust 14 = .ok (.getfield 23, 3) := by decide +kernel
theorem dX3_trust_17 : decode cX3_trust 17 = .ok (.iload_n 3, 1) := by decide +kernel
theorem dX3_trust_18 : decode cX3_trust 18 = .ok (.iload_n 1, 1) := by decide +kernel
theorem dX3_trust_19 : decode cX3_trust 19 = .ok (.invokestatic 56, 3) := by decide +kernel
theorem dX3_trust_22 : decode cX3_trust 22 = .ok (.iaload, 1) := by decide +kernel
theorem dX3_trust_23 : decode cX3_trust 23 = .ok (.iconst (-1), 1) := by decide +kernel
theorem dX3_trust_24 : decode cX3_trust 24 = .ok (.if_icmp .eq 15, 3) := by decide +kernel
theorem dX3_trust_27 : decode cX3_trust 27 = .ok (.aload_n 0, 1) := by decide +kernel
theorem dX3_trust_28 : decode cX3_trust 28 = .ok (.getfield 23, 3) := by decide +kernel
theorem dX3_trust_31 : decode cX3_trust 31 = .ok (.bipush 50, 2) := by decide +kernel
theorem dX3_trust_33 : decode cX3_trust 33 = .ok (.iload_n 3, 1) := by decide +kernel
theorem dX3_trust_34 : decode cX3_trust 34 = .ok (.iadd, 1) := by decide +kernel
theorem dX3_trust_35 : decode cX3_trust 35 = .ok (.iaload, 1) := by decide +kernel
theorem dX3_trust_36 : decode cX3_trust 36 = .ok (.goto 4, 3) := by decide +kernel
theorem dX3_trust_39 : decode cX3_trust 39 = .ok (.iconst 0, 1) := by decide +kernel
theorem dX3_trust_40 : decode cX3_trust 40 = .ok (.iadd, 1) := by decide +kernel
theorem dX3_trust_41 : decode cX3_trust 41 = .ok (.istore_n 2, 1) := by decide +kernel
theorem dX3_trust_42 : decode cX3_trust 42 = .ok (.iinc 3 1, 3) := by decide +kernel
theorem dX3_trust_45 : decode cX3_trust 45 = .ok (.goto (-41), 3) := by decide +kernel
theorem dX3_trust_48 : decode cX3_trust 48 = .ok (.iload_n 2, 1) := by decide +kernel
theorem dX3_trust_49 : decode cX3_trust 49 = .ok (.ireturn, 1) := by decide +kernel
set_option maxRecDepth 20000 in
theorem ggX3_voters_X3_sailor : GoodIn wsX3_voters wsX3_sailor := goodIn_r _ [8] (by decide +kernel) (by decide +kernel)
set_option maxRecDepth 20000 in
theorem gX3_voters_X3_sailor : GoodIn wsX3_voters (va_wsS RX3 59 yX3_sailor wsX3_sailor) := goodIn_app (goodIn_of _ (by decide +kernel)) ggX3_voters_X3_sailor
theorem dX3_voters_0 : decode cX3_voters 0 = .ok (.iconst 0, 1) := by decide +kernel
theorem dX3_voters_1 : decode cX3_voters 1 = .ok (.istore_n 3, 1) := by decide +kernel
theorem dX3_voters_2 : decode cX3_voters 2 = .ok (.iconst 0, 1) := by decide +kernel
theorem dX3_voters_3 : decode cX3_voters 3 = .ok (.istore 4, 2) := by decide +kernel
theorem dX3_voters_5 : decode cX3_voters 5 = .ok (.iload 4, 2) := by decide +kernel
theorem dX3_voters_7 : decode cX3_voters 7 = .ok (.aload_n 0, 1) := by decide +kernel
theorem dX3_voters_8 : decode cX3_voters 8 = .ok (.getfield 40, 3) := by decide +kernel
theorem dX3_voters_11 : decode cX3_voters 11 = .ok (.if_icmp .ge 57, 3) := by decide +kernel
theorem dX3_voters_14 : decode cX3_voters 14 = .ok (.iload_n 3, 1) := by decide +kernel
theorem dX3_voters_15 : decode cX3_voters 15 = .ok (.aload_n 0, 1) := by decide +kernel
theorem dX3_voters_16 : decode cX3_voters 16 = .ok (.getfield 13, 3) := by decide +kernel
theorem dX3_voters_19 : decode cX3_voters 19 = .ok (.iload 4, 2) := by decide +kernel
theorem dX3_voters_21 : decode cX3_voters 21 = .ok (.iaload, 1) := by decide +kernel
theorem dX3_voters_22 : decode cX3_voters 22 = .ok (.iload_n 1, 1) := by decide +kernel
theorem dX3_voters_23 : decode cX3_voters 23 = .ok (.if_icmp .ne 36, 3) := by decide +kernel
theorem dX3_voters_26 : decode cX3_voters 26 = .ok (.aload_n 0, 1) := by decide +kernel
theorem dX3_voters_27 : decode cX3_voters 27 = .ok (.getfield 19, 3) := by decide +kernel
theorem dX3_voters_30 : decode cX3_voters 30 = .ok (.iload 4, 2) := by decide +kernel
theorem dX3_voters_32 : decode cX3_voters 32 = .ok (.baload, 1) := by decide +kernel
theorem dX3_voters_33 : decode cX3_voters 33 = .ok (.ifCond .eq 26, 3) := by decide +kernel
theorem dX3_voters_36 : decode cX3_voters 36 = .ok (.iload_n 2, 1) := by decide +kernel
theorem dX3_voters_37 : decode cX3_voters 37 = .ok (.ifCond .eq 18, 3) := by decide +kernel
theorem dX3_voters_40 : decode cX3_voters 40 = .ok (.aload_n 0, 1) := by decide +kernel
theorem dX3_voters_41 : decode cX3_voters 41 = .ok (.getfield 23, 3) := by decide +kernel
theorem dX3_voters_44 : decode cX3_voters 44 = .ok (.iload 4, 2) := by decide +kernel
theorem dX3_voters_46 : decode cX3_voters 46 = .ok (.iconst 1, 1) := by decide +kernel
theorem dX3_voters_47 : decode cX3_voters 47 = .ok (.invokestatic 59, 3) := by decide +kernel
theorem dX3_voters_50 : decode cX3_voters 50 = .ok (.iaload, 1) := by decide +kernel
theorem dX3_voters_51 : decode cX3_voters 51 = .ok (.iconst 1, 1) := by decide +kernel
theorem dX3_voters_52 : decode cX3_voters 52 = .ok (.if_icmp .ne 7, 3) := by decide +kernel
theorem dX3_voters_55 : decode cX3_voters 55 = .ok (.iconst 1, 1) := by decide +kernel
theorem dX3_voters_56 : decode cX3_voters 56 = .ok (.goto 4, 3) := by decide +kernel
theorem dX3_voters_59 : decode cX3_voters 59 = .ok (.iconst 0, 1) := by decide +kernel
theorem dX3_voters_60 : decode cX3_voters 60 = .ok (.iadd, 1) := by decide +kernel
theorem dX3_voters_61 : decode cX3_voters 61 = .ok (.istore_n 3, 1) := by decide +kernel
theorem dX3_voters_62 : decode cX3_voters 62 = .ok (.iinc 4 1, 3) := by decide +kernel
theorem dX3_voters_65 : decode cX3_voters 65 = .ok (.goto (-60), 3) := by decide +kernel
theorem dX3_voters_68 : decode cX3_voters 68 = .ok (.iload_n 3, 1) := by decide +kernel
theorem dX3_voters_69 : decode cX3_voters 69 = .ok (.ireturn, 1) := by decide +kernel
set_option maxRecDepth 20000 in
theorem ggX3_dark_X3_isOut : GoodIn wsX3_dark wsX3_isOut := goodIn_r _ [7, 2, 8, 9, 6, 10, 14, 15, 16, 17, 18, 19, 20, 21, 22, 23] (by decide +kernel) (by decide +kernel)
set_option maxRecDepth 20000 in
theorem gX3_dark_X3_isOut : GoodIn wsX3_dark (wsV RX3 62 RX3 yX3_isOut wsX3_isOut) := goodIn_app (goodIn_of _ (by decide +kernel)) ggX3_dark_X3_isOut
set_option maxRecDepth 20000 in
theorem ggX3_dark_X3_sailor : GoodIn wsX3_dark wsX3_sailor := goodIn_r _ [13] (by decide +kernel) (by decide +kernel)
set_option maxRecDepth 20000 in
theorem gX3_dark_X3_sailor : GoodIn wsX3_dark (va_wsS RX3 59 yX3_sailor wsX3_sailor) := goodIn_app (goodIn_of _ (by decide +kernel)) ggX3_dark_X3_sailor
theorem dX3_dark_0 : decode cX3_dark 0 = .ok (.aload_n 0, 1) := by decide +kernel
theorem dX3_dark_1 : decode cX3_dark 1 = .ok (.aload_n 0, 1) := by decide +kernel
theorem dX3_dark_2 : decode cX3_dark 2 = .ok (.getfield 13, 3) := by decide +kernel
theorem dX3_dark_5 : decode cX3_dark 5 = .ok (.iload_n 1, 1) := by decide +kernel
theorem dX3_dark_6 : decode cX3_dark 6 = .ok (.iaload, 1) := by decide +kernel
theorem dX3_dark_7 : decode cX3_dark 7 = .ok (.invokevirtual 62, 3) := by decide +kernel
theorem dX3_dark_10 : decode cX3_dark 10 = .ok (.ifCond .eq 20, 3) := by decide +kernel
theorem dX3_dark_13 : decode cX3_dark 13 = .ok (.aload_n 0, 1) := by decide +kernel
theorem dX3_dark_14 : decode cX3_dark 14 = .ok (.getfield 23, 3) := by decide +kernel
theorem dX3_dark_17 : decode cX3_dark 17 = .ok (.iload_n 1, 1) := by decide +kernel
theorem dX3_dark_18 : decode cX3_dark 18 = .ok (.iconst 0, 1) := by decide +kernel
theorem dX3_dark_19 : decode cX3_dark 19 = .ok (.invokestatic 59, 3) := by decide +kernel
theorem dX3_dark_22 : decode cX3_dark 22 = .ok (.iaload, 1) := by decide +kernel
theorem dX3_dark_23 : decode cX3_dark 23 = .ok (.ifCond .ne 7, 3) := by decide +kernel
theorem dX3_dark_26 : decode cX3_dark 26 = .ok (.iconst 1, 1) := by decide +kernel
theorem dX3_dark_27 : decode cX3_dark 27 = .ok (.goto 4, 3) := by decide +kernel
theorem dX3_dark_30 : decode cX3_dark 30 = .ok (.iconst 0, 1) := by decide +kernel
theorem dX3_dark_31 : decode cX3_dark 31 = .ok (.ireturn, 1) := by decide +kernel
set_option maxRecDepth 20000 in
theorem ggX3_allDark_X3_dark : GoodIn wsX3_allDark wsX3_dark := goodIn_r _ [6, 7, 8, 9, 10, 11, 5, 12, 13, 14, 15, 16, 17, 18, 19, 20, 21, 22, 23, 24, 25, 26, 27, 28] (by decide +kernel) (by decide +kernel)
set_option maxRecDepth 20000 in
theorem gX3_allDark_X3_dark : GoodIn wsX3_allDark (wsV RX3 66 RX3 yX3_dark wsX3_dark) := goodIn_app (goodIn_of _ (by decide +kernel)) ggX3_allDark_X3_dark
theorem dX3_allDark_0 : decode cX3_allDark 0 = .ok (.iconst 0, 1) := by decide +kernel
theorem dX3_allDark_1 : decode cX3_allDark 1 = .ok (.istore_n 1, 1) := by decide +kernel
theorem dX3_allDark_2 : decode cX3_allDark 2 = .ok (.iconst 0, 1) := by decide +kernel
theorem dX3_allDark_3 : decode cX3_allDark 3 = .ok (.istore_n 2, 1) := by decide +kernel
theorem dX3_allDark_4 : decode cX3_allDark 4 = .ok (.iload_n 2, 1) := by decide +kernel
theorem dX3_allDark_5 : decode cX3_allDark 5 = .ok (.aload_n 0, 1) := by decide +kernel
theorem dX3_allDark_6 : decode cX3_allDark 6 = .ok (.getfield 40, 3) := by decide +kernel
theorem dX3_allDark_9 : decode cX3_allDark 9 = .ok (.if_icmp .ge 25, 3) := by decide +kernel
theorem dX3_allDark_12 : decode cX3_allDark 12 = .ok (.iload_n 1, 1) := by decide +kernel
theorem dX3_allDark_13 : decode cX3_allDark 13 = .ok (.aload_n 0, 1) := by decide +kernel
theorem dX3_allDark_14 : decode cX3_allDark 14 = .ok (.iload_n 2, 1) := by decide +kernel
theorem dX3_allDark_15 : decode cX3_allDark 15 = .ok (.invokevirtual 66, 3) := by decide +kernel
theorem dX3_allDark_18 : decode cX3_allDark 18 = .ok (.ifCond .eq 7, 3) := by decide +kernel
theorem dX3_allDark_21 : decode cX3_allDark 21 = .ok (.iconst 1, 1) := by decide +kernel
theorem dX3_allDark_22 : decode cX3_allDark 22 = .ok (.goto 4, 3) := by decide +kernel
theorem dX3_allDark_25 : decode cX3_allDark 25 = .ok (.iconst 0, 1) := by decide +kernel
theorem dX3_allDark_26 : decode cX3_allDark 26 = .ok (.iadd, 1) := by decide +kernel
theorem dX3_allDark_27 : decode cX3_allDark 27 = .ok (.istore_n 1, 1) := by decide +kernel
theorem dX3_allDark_28 : decode cX3_allDark 28 = .ok (.iinc 2 1, 3) := by decide +kernel
theorem dX3_allDark_31 : decode cX3_allDark 31 = .ok (.goto (-27), 3) := by decide +kernel
theorem dX3_allDark_34 : decode cX3_allDark 34 = .ok (.iload_n 1, 1) := by decide +kernel
theorem dX3_allDark_35 : decode cX3_allDark 35 = .ok (.ireturn, 1) := by decide +kernel
set_option maxRecDepth 20000 in
theorem ggX3_onWall_X3_ship : GoodIn wsX3_onWall wsX3_ship := goodIn_r _ [7] (by decide +kernel) (by decide +kernel)
set_option maxRecDepth 20000 in
theorem gX3_onWall_X3_ship : GoodIn wsX3_onWall (va_wsS RX3 46 yX3_ship wsX3_ship) := goodIn_app (goodIn_of _ (by decide +kernel)) ggX3_onWall_X3_ship
theorem dX3_onWall_0 : decode cX3_onWall 0 = .ok (.iconst 0, 1) := by decide +kernel
theorem dX3_onWall_1 : decode cX3_onWall 1 = .ok (.istore_n 1, 1) := by decide +kernel
theorem dX3_onWall_2 : decode cX3_onWall 2 = .ok (.iconst 0, 1) := by decide +kernel
theorem dX3_onWall_3 : decode cX3_onWall 3 = .ok (.istore_n 2, 1) := by decide +kernel
theorem dX3_onWall_4 : decode cX3_onWall 4 = .ok (.iload_n 2, 1) := by decide +kernel
theorem dX3_onWall_5 : decode cX3_onWall 5 = .ok (.aload_n 0, 1) := by decide +kernel
theorem dX3_onWall_6 : decode cX3_onWall 6 = .ok (.getfield 40, 3) := by decide +kernel
theorem dX3_onWall_9 : decode cX3_onWall 9 = .ok (.if_icmp .ge 36, 3) := by decide +kernel
theorem dX3_onWall_12 : decode cX3_onWall 12 = .ok (.iload_n 1, 1) := by decide +kernel
theorem dX3_onWall_13 : decode cX3_onWall 13 = .ok (.aload_n 0, 1) := by decide +kernel
theorem dX3_onWall_14 : decode cX3_onWall 14 = .ok (.getfield 23, 3) := by decide +kernel
theorem dX3_onWall_17 : decode cX3_onWall 17 = .ok (.aload_n 0, 1) := by decide +kernel
theorem dX3_onWall_18 : decode cX3_onWall 18 = .ok (.getfield 13, 3) := by decide +kernel
theorem dX3_onWall_21 : decode cX3_onWall 21 = .ok (.iload_n 2, 1) := by decide +kernel
theorem dX3_onWall_22 : decode cX3_onWall 22 = .ok (.iaload, 1) := by decide +kernel
theorem dX3_onWall_23 : decode cX3_onWall 23 = .ok (.iconst 0, 1) := by decide +kernel
theorem dX3_onWall_24 : decode cX3_onWall 24 = .ok (.invokestatic 46, 3) := by decide +kernel
theorem dX3_onWall_27 : decode cX3_onWall 27 = .ok (.iaload, 1) := by decide +kernel
theorem dX3_onWall_28 : decode cX3_onWall 28 = .ok (.iconst 2, 1) := by decide +kernel
theorem dX3_onWall_29 : decode cX3_onWall 29 = .ok (.if_icmp .ne 7, 3) := by decide +kernel
theorem dX3_onWall_32 : decode cX3_onWall 32 = .ok (.iconst 1, 1) := by decide +kernel
theorem dX3_onWall_33 : decode cX3_onWall 33 = .ok (.goto 4, 3) := by decide +kernel
theorem dX3_onWall_36 : decode cX3_onWall 36 = .ok (.iconst 0, 1) := by decide +kernel
theorem dX3_onWall_37 : decode cX3_onWall 37 = .ok (.iadd, 1) := by decide +kernel
theorem dX3_onWall_38 : decode cX3_onWall 38 = .ok (.istore_n 1, 1) := by decide +kernel
theorem dX3_onWall_39 : decode cX3_onWall 39 = .ok (.iinc 2 1, 3) := by decide +kernel
theorem dX3_onWall_42 : decode cX3_onWall 42 = .ok (.goto (-38), 3) := by decide +kernel
theorem dX3_onWall_45 : decode cX3_onWall 45 = .ok (.iload_n 1, 1) := by decide +kernel
theorem dX3_onWall_46 : decode cX3_onWall 46 = .ok (.ireturn, 1) := by decide +kernel
set_option maxRecDepth 20000 in
theorem ggX3_lights_X3_sailor : GoodIn wsX3_lights wsX3_sailor := goodIn_r _ [5] (by decide +kernel) (by decide +kernel)
set_option maxRecDepth 20000 in
theorem gX3_lights_X3_sailor : GoodIn wsX3_lights (va_wsS RX3 59 yX3_sailor wsX3_sailor) := goodIn_app (goodIn_of _ (by decide +kernel)) ggX3_lights_X3_sailor
theorem dX3_lights_0 : decode cX3_lights 0 = .ok (.aload_n 0, 1) := by decide +kernel
theorem dX3_lights_1 : decode cX3_lights 1 = .ok (.getfield 23, 3) := by decide +kernel
theorem dX3_lights_4 : decode cX3_lights 4 = .ok (.iconst 1, 1) := by decide +kernel
theorem dX3_lights_5 : decode cX3_lights 5 = .ok (.iaload, 1) := by decide +kernel
theorem dX3_lights_6 : decode cX3_lights 6 = .ok (.bipush 12, 2) := by decide +kernel
theorem dX3_lights_8 : decode cX3_lights 8 = .ok (.if_icmp .ge 5, 3) := by decide +kernel
theorem dX3_lights_11 : decode cX3_lights 11 = .ok (.iconst 0, 1) := by decide +kernel
theorem dX3_lights_12 : decode cX3_lights 12 = .ok (.ireturn, 1) := by decide +kernel
theorem dX3_lights_13 : decode cX3_lights 13 = .ok (.aload_n 0, 1) := by decide +kernel
theorem dX3_lights_14 : decode cX3_lights 14 = .ok (.getfield 23, 3) := by decide +kernel
theorem dX3_lights_17 : decode cX3_lights 17 = .ok (.iconst 1, 1) := by decide +kernel
theorem dX3_lights_18 : decode cX3_lights 18 = .ok (.dup2, 1) := by decide +kernel
theorem dX3_lights_19 : decode cX3_lights 19 = .ok (.iaload, 1) := by decide +kernel
theorem dX3_lights_20 : decode cX3_lights 20 = .ok (.bipush 12, 2) := by decide +kernel
theorem dX3_lights_22 : decode cX3_lights 22 = .ok (.isub, 1) := by decide +kernel
theorem dX3_lights_23 : decode cX3_lights 23 = .ok (.iastore, 1) := by decide +kernel
theorem dX3_lights_24 : decode cX3_lights 24 = .ok (.aload_n 0, 1) := by decide +kernel
theorem dX3_lights_25 : decode cX3_lights 25 = .ok (.getfield 23, 3) := by decide +kernel
theorem dX3_lights_28 : decode cX3_lights 28 = .ok (.iload_n 1, 1) := by decide +kernel
theorem dX3_lights_29 : decode cX3_lights 29 = .ok (.iconst 0, 1) := by decide +kernel
theorem dX3_lights_30 : decode cX3_lights 30 = .ok (.invokestatic 59, 3) := by decide +kernel
theorem dX3_lights_33 : decode cX3_lights 33 = .ok (.bipush 12, 2) := by decide +kernel
theorem dX3_lights_35 : decode cX3_lights 35 = .ok (.iastore, 1) := by decide +kernel
theorem dX3_lights_36 : decode cX3_lights 36 = .ok (.iconst 1, 1) := by decide +kernel
theorem dX3_lights_37 : decode cX3_lights 37 = .ok (.ireturn, 1) := by decide +kernel
set_option maxRecDepth 20000 in
theorem ggX3_end_X3_sailor : GoodIn wsX3_end wsX3_sailor := goodIn_r _ [8] (by decide +kernel) (by decide +kernel)
set_option maxRecDepth 20000 in
theorem gX3_end_X3_sailor : GoodIn wsX3_end (va_wsS RX3 59 yX3_sailor wsX3_sailor) := goodIn_app (goodIn_of _ (by decide +kernel)) ggX3_end_X3_sailor
set_option maxRecDepth 20000 in
theorem ggX3_end_X3_ship : GoodIn wsX3_end wsX3_ship := goodIn_r _ [11] (by decide +kernel) (by decide +kernel)
set_option maxRecDepth 20000 in
theorem gX3_end_X3_ship : GoodIn wsX3_end (va_wsS RX3 46 yX3_ship wsX3_ship) := goodIn_app (goodIn_of _ (by decide +kernel)) ggX3_end_X3_ship
set_option maxRecDepth 20000 in
theorem ggX3_end_X3_sighting : GoodIn wsX3_end wsX3_sighting := goodIn_r _ [14] (by decide +kernel) (by decide +kernel)
set_option maxRecDepth 20000 in
theorem gX3_end_X3_sighting : GoodIn wsX3_end (va_wsS RX3 56 yX3_sighting wsX3_sighting) := goodIn_app (goodIn_of _ (by decide +kernel)) ggX3_end_X3_sighting
theorem dX3_end_0 : decode cX3_end 0 = .ok (.iconst 0, 1) := by decide +kernel
theorem dX3_end_1 : decode cX3_end 1 = .ok (.istore_n 2, 1) := by decide +kernel
theorem dX3_end_2 : decode cX3_end 2 = .ok (.iload_n 2, 1) := by decide +kernel
theorem dX3_end_3 : decode cX3_end 3 = .ok (.aload_n 0, 1) := by decide +kernel
theorem dX3_end_4 : decode cX3_end 4 = .ok (.getfield 40, 3) := by decide +kernel
theorem dX3_end_7 : decode cX3_end 7 = .ok (.if_icmp .ge 52, 3) := by decide +kernel
theorem dX3_end_10 : decode cX3_end 10 = .ok (.aload_n 0, 1) := by decide +kernel
theorem dX3_end_11 : decode cX3_end 11 = .ok (.getfield 13, 3) := by decide +kernel
theorem dX3_end_14 : decode cX3_end 14 = .ok (.iload_n 2, 1) := by decide +kernel
theorem dX3_end_15 : decode cX3_end 15 = .ok (.iaload, 1) := by decide +kernel
theorem dX3_end_16 : decode cX3_end 16 = .ok (.iload_n 1, 1) := by decide +kernel
theorem dX3_end_17 : decode cX3_end 17 = .ok (.if_icmp .eq 6, 3) := by decide +kernel
theorem dX3_end_20 : decode cX3_end 20 = .ok (.goto 33, 3) := by decide +kernel
theorem dX3_end_23 : decode cX3_end 23 = .ok (.aload_n 0, 1) := by decide +kernel
theorem dX3_end_24 : decode cX3_end 24 = .ok (.getfield 23, 3) := by decide +kernel
theorem dX3_end_27 : decode cX3_end 27 = .ok (.iconst 1, 1) := by decide +kernel
theorem dX3_end_28 : decode cX3_end 28 = .ok (.dup2, 1) := by decide +kernel
theorem dX3_end_29 : decode cX3_end 29 = .ok (.iaload, 1) := by decide +kernel
theorem dX3_end_30 : decode cX3_end 30 = .ok (.aload_n 0, 1) := by decide +kernel
theorem dX3_end_31 : decode cX3_end 31 = .ok (.getfield 23, 3) := by decide +kernel
theorem dX3_end_34 : decode cX3_end 34 = .ok (.iload_n 2, 1) := by decide +kernel
theorem dX3_end_35 : decode cX3_end 35 = .ok (.iconst 0, 1) := by decide +kernel
theorem dX3_end_36 : decode cX3_end 36 = .ok (.invokestatic 59, 3) := by decide +kernel
theorem dX3_end_39 : decode cX3_end 39 = .ok (.iaload, 1) := by decide +kernel
theorem dX3_end_40 : decode cX3_end 40 = .ok (.iadd, 1) := by decide +kernel
theorem dX3_end_41 : decode cX3_end 41 = .ok (.iastore, 1) := by decide +kernel
theorem dX3_end_42 : decode cX3_end 42 = .ok (.aload_n 0, 1) := by decide +kernel
theorem dX3_end_43 : decode cX3_end 43 = .ok (.getfield 23, 3) := by decide +kernel
theorem dX3_end_46 : decode cX3_end 46 = .ok (.iload_n 2, 1) := by decide +kernel
theorem dX3_end_47 : decode cX3_end 47 = .ok (.iconst 0, 1) := by decide +kernel
theorem dX3_end_48 : decode cX3_end 48 = .ok (.invokestatic 59, 3) := by decide +kernel
theorem dX3_end_51 : decode cX3_end 51 = .ok (.iconst 0, 1) := by decide +kernel
theorem dX3_end_52 : decode cX3_end 52 = .ok (.iastore, 1) := by decide +kernel
theorem dX3_end_53 : decode cX3_end 53 = .ok (.iinc 2 1, 3) := by decide +kernel
theorem dX3_end_56 : decode cX3_end 56 = .ok (.goto (-54), 3) := by decide +kernel
theorem dX3_end_59 : decode cX3_end 59 = .ok (.aload_n 0, 1) := by decide +kernel
theorem dX3_end_60 : decode cX3_end 60 = .ok (.getfield 23, 3) := by decide +kernel
theorem dX3_end_63 : decode cX3_end 63 = .ok (.iload_n 1, 1) := by decide +kernel
theorem dX3_end_64 : decode cX3_end 64 = .ok (.iconst 2, 1) := by decide +kernel
theorem dX3_end_65 : decode cX3_end 65 = .ok (.invokestatic 46, 3) := by decide +kernel
theorem dX3_end_68 : decode cX3_end 68 = .ok (.iconst 0, 1) := by decide +kernel
theorem dX3_end_69 : decode cX3_end 69 = .ok (.iastore, 1) := by decide +kernel
theorem dX3_end_70 : decode cX3_end 70 = .ok (.iconst 0, 1) := by decide +kernel
theorem dX3_end_71 : decode cX3_end 71 = .ok (.istore_n 2, 1) := by decide +kernel
theorem dX3_end_72 : decode cX3_end 72 = .ok (.iload_n 2, 1) := by decide +kernel
theorem dX3_end_73 : decode cX3_end 73 = .ok (.aload_n 0, 1) := by decide +kernel
theorem dX3_end_74 : decode cX3_end 74 = .ok (.getfield 43, 3) := by decide +kernel
theorem dX3_end_77 : decode cX3_end 77 = .ok (.if_icmp .ge 20, 3) := by decide +kernel
theorem dX3_end_80 : decode cX3_end 80 = .ok (.aload_n 0, 1) := by decide +kernel
theorem dX3_end_81 : decode cX3_end 81 = .ok (.getfield 23, 3) := by decide +kernel
theorem dX3_end_84 : decode cX3_end 84 = .ok (.iload_n 2, 1) := by decide +kernel
theorem dX3_end_85 : decode cX3_end 85 = .ok (.iload_n 1, 1) := by decide +kernel
theorem dX3_end_86 : decode cX3_end 86 = .ok (.invokestatic 56, 3) := by decide +kernel
theorem dX3_end_89 : decode cX3_end 89 = .ok (.iconst (-1), 1) := by decide +kernel
theorem dX3_end_90 : decode cX3_end 90 = .ok (.iastore, 1) := by decide +kernel
theorem dX3_end_91 : decode cX3_end 91 = .ok (.iinc 2 1, 3) := by decide +kernel
theorem dX3_end_94 : decode cX3_end 94 = .ok (.goto (-22), 3) := by decide +kernel
theorem dX3_end_97 : decode cX3_end 97 = .ok (.return_, 1) := by decide +kernel
set_option maxRecDepth 20000 in
theorem ggX3_getOlder_X3_sighting : GoodIn wsX3_getOlder wsX3_sighting := goodIn_r _ [11] (by decide +kernel) (by decide +kernel)
set_option maxRecDepth 20000 in
theorem gX3_getOlder_X3_sighting : GoodIn wsX3_getOlder (va_wsS RX3 56 yX3_sighting wsX3_sighting) := goodIn_app (goodIn_of _ (by decide +kernel)) ggX3_getOlder_X3_sighting
theorem dX3_getOlder_0 : decode cX3_getOlder 0 = .ok (.iconst 0, 1) := by decide +kernel
theorem dX3_getOlder_1 : decode cX3_getOlder 1 = .ok (.istore_n 1, 1) := by decide +kernel
theorem dX3_getOlder_2 : decode cX3_getOlder 2 = .ok (.iload_n 1, 1) := by decide +kernel
theorem dX3_getOlder_3 : decode cX3_getOlder 3 = .ok (.aload_n 0, 1) := by decide +kernel
theorem dX3_getOlder_4 : decode cX3_getOlder 4 = .ok (.getfield 43, 3) := by decide +kernel
theorem dX3_getOlder_7 : decode cX3_getOlder 7 = .ok (.if_icmp .ge 98, 3) := by decide +kernel
theorem dX3_getOlder_10 : decode cX3_getOlder 10 = .ok (.iconst 0, 1) := by decide +kernel
theorem dX3_getOlder_11 : decode cX3_getOlder 11 = .ok (.istore_n 2, 1) := by decide +kernel
theorem dX3_getOlder_12 : decode cX3_getOlder 12 = .ok (.iload_n 2, 1) := by decide +kernel
theorem dX3_getOlder_13 : decode cX3_getOlder 13 = .ok (.aload_n 0, 1) := by decide +kernel
theorem dX3_getOlder_14 : decode cX3_getOlder 14 = .ok (.getfield 33, 3) := by decide +kernel
theorem dX3_getOlder_17 : decode cX3_getOlder 17 = .ok (.if_icmp .ge 82, 3) := by decide +kernel
theorem dX3_getOlder_20 : decode cX3_getOlder 20 = .ok (.iload_n 1, 1) := by decide +kernel
theorem dX3_getOlder_21 : decode cX3_getOlder 21 = .ok (.iload_n 2, 1) := by decide +kernel
theorem dX3_getOlder_22 : decode cX3_getOlder 22 = .ok (.invokestatic 56, 3) := by decide +kernel
theorem dX3_getOlder_25 : decode cX3_getOlder 25 = .ok (.istore_n 3, 1) := by decide +kernel
theorem dX3_getOlder_26 : decode cX3_getOlder 26 = .ok (.aload_n 0, 1) := by decide +kernel
theorem dX3_getOlder_27 : decode cX3_getOlder 27 = .ok (.getfield 23, 3) := by decide +kernel
theorem dX3_getOlder_30 : decode cX3_getOlder 30 = .ok (.iload_n 3, 1) := by decide +kernel
theorem dX3_getOlder_31 : decode cX3_getOlder 31 = .ok (.iaload, 1) := by decide +kernel
theorem dX3_getOlder_32 : decode cX3_getOlder 32 = .ok (.iconst (-1), 1) := by decide +kernel
theorem dX3_getOlder_33 : decode cX3_getOlder 33 = .ok (.if_icmp .ne 6, 3) := by decide +kernel
theorem dX3_getOlder_36 : decode cX3_getOlder 36 = .ok (.goto 57, 3) := by decide +kernel
theorem dX3_getOlder_39 : decode cX3_getOlder 39 = .ok (.aload_n 0, 1) := by decide +kernel
theorem dX3_getOlder_40 : decode cX3_getOlder 40 = .ok (.getfield 23, 3) := by decide +kernel
theorem dX3_getOlder_43 : decode cX3_getOlder 43 = .ok (.iload_n 3, 1) := by decide +kernel
theorem dX3_getOlder_44 : decode cX3_getOlder 44 = .ok (.dup2, 1) := by decide +kernel
theorem dX3_getOlder_45 : decode cX3_getOlder 45 = .ok (.iaload, 1) := by decide +kernel
theorem dX3_getOlder_46 : decode cX3_getOlder 46 = .ok (.iconst 1, 1) := by decide +kernel
theorem dX3_getOlder_47 : decode cX3_getOlder 47 = .ok (.iadd, 1) := by decide +kernel
theorem dX3_getOlder_48 : decode cX3_getOlder 48 = .ok (.iastore, 1) := by decide +kernel
theorem dX3_getOlder_49 : decode cX3_getOlder 49 = .ok (.aload_n 0, 1) := by decide +kernel
theorem dX3_getOlder_50 : decode cX3_getOlder 50 = .ok (.getfield 23, 3) := by decide +kernel
theorem dX3_getOlder_53 : decode cX3_getOlder 53 = .ok (.iload_n 3, 1) := by decide +kernel
theorem dX3_getOlder_54 : decode cX3_getOlder 54 = .ok (.iaload, 1) := by decide +kernel
theorem dX3_getOlder_55 : decode cX3_getOlder 55 = .ok (.iconst 3, 1) := by decide +kernel
theorem dX3_getOlder_56 : decode cX3_getOlder 56 = .ok (.if_icmp .ge 6, 3) := by decide +kernel
theorem dX3_getOlder_59 : decode cX3_getOlder 59 = .ok (.goto 34, 3) := by decide +kernel
theorem dX3_getOlder_62 : decode cX3_getOlder 62 = .ok (.aload_n 0, 1) := by decide +kernel
theorem dX3_getOlder_63 : decode cX3_getOlder 63 = .ok (.getfield 23, 3) := by decide +kernel
theorem dX3_getOlder_66 : decode cX3_getOlder 66 = .ok (.iload_n 3, 1) := by decide +kernel
theorem dX3_getOlder_67 : decode cX3_getOlder 67 = .ok (.iconst (-1), 1) := by decide +kernel
theorem dX3_getOlder_68 : decode cX3_getOlder 68 = .ok (.iastore, 1) := by decide +kernel
theorem dX3_getOlder_69 : decode cX3_getOlder 69 = .ok (.aload_n 0, 1) := by decide +kernel
theorem dX3_getOlder_70 : decode cX3_getOlder 70 = .ok (.getfield 23, 3) := by decide +kernel
theorem dX3_getOlder_73 : decode cX3_getOlder 73 = .ok (.bipush 50, 2) := by decide +kernel
theorem dX3_getOlder_75 : decode cX3_getOlder 75 = .ok (.iload_n 1, 1) := by decide +kernel
theorem dX3_getOlder_76 : decode cX3_getOlder 76 = .ok (.iadd, 1) := by decide +kernel
theorem dX3_getOlder_77 : decode cX3_getOlder 77 = .ok (.iconst 0, 1) := by decide +kernel
theorem dX3_getOlder_78 : decode cX3_getOlder 78 = .ok (.aload_n 0, 1) := by decide +kernel
theorem dX3_getOlder_79 : decode cX3_getOlder 79 = .ok (.getfield 23, 3) := by decide +kernel
theorem dX3_getOlder_82 : decode cX3_getOlder 82 = .ok (.bipush 50, 2) := by decide +kernel
theorem dX3_getOlder_84 : decode cX3_getOlder 84 = .ok (.iload_n 1, 1) := by decide +kernel
theorem dX3_getOlder_85 : decode cX3_getOlder 85 = .ok (.iadd, 1) := by decide +kernel
theorem dX3_getOlder_86 : decode cX3_getOlder 86 = .ok (.iaload, 1) := by decide +kernel
theorem dX3_getOlder_87 : decode cX3_getOlder 87 = .ok (.iconst 2, 1) := by decide +kernel
theorem dX3_getOlder_88 : decode cX3_getOlder 88 = .ok (.isub, 1) := by decide +kernel
theorem dX3_getOlder_89 : decode cX3_getOlder 89 = .ok (.invokestatic 69, 3) := by decide +kernel
theorem dX3_getOlder_92 : decode cX3_getOlder 92 = .ok (.iastore, 1) := by decide +kernel
theorem dX3_getOlder_93 : decode cX3_getOlder 93 = .ok (.iinc 2 1, 3) := by decide +kernel
theorem dX3_getOlder_96 : decode cX3_getOlder 96 = .ok (.goto (-84), 3) := by decide +kernel
theorem dX3_getOlder_99 : decode cX3_getOlder 99 = .ok (.iinc 1 1, 3) := by decide +kernel
theorem dX3_getOlder_102 : decode cX3_getOlder 102 = .ok (.goto (-100), 3) := by decide +kernel
theorem dX3_getOlder_105 : decode cX3_getOlder 105 = .ok (.return_, 1) := by decide +kernel
set_option maxRecDepth 20000 in
theorem ggX3_burn_X3_isOut : GoodIn wsX3_burn wsX3_isOut := goodIn_r _ [12, 2, 13, 14, 11, 15, 23, 24, 25, 26, 27, 28, 29, 30, 31, 32] (by decide +kernel) (by decide +kernel)
set_option maxRecDepth 20000 in
theorem gX3_burn_X3_isOut : GoodIn wsX3_burn (wsV RX3 62 RX3 yX3_isOut wsX3_isOut) := goodIn_app (goodIn_of _ (by decide +kernel)) ggX3_burn_X3_isOut
set_option maxRecDepth 20000 in
theorem ggX3_burn_X3_ship : GoodIn wsX3_burn wsX3_ship := goodIn_r _ [15] (by decide +kernel) (by decide +kernel)
set_option maxRecDepth 20000 in
theorem gX3_burn_X3_ship : GoodIn wsX3_burn (va_wsS RX3 46 yX3_ship wsX3_ship) := goodIn_app (goodIn_of _ (by decide +kernel)) ggX3_burn_X3_ship
set_option maxRecDepth 20000 in
theorem ggX3_burn_X3_sailor : GoodIn wsX3_burn wsX3_sailor := goodIn_r _ [18] (by decide +kernel) (by decide +kernel)
set_option maxRecDepth 20000 in
theorem gX3_burn_X3_sailor : GoodIn wsX3_burn (va_wsS RX3 59 yX3_sailor wsX3_sailor) := goodIn_app (goodIn_of _ (by decide +kernel)) ggX3_burn_X3_sailor
set_option maxRecDepth 20000 in
theorem ggX3_burn_X3_lights : GoodIn wsX3_burn wsX3_lights := goodIn_r _ [22, 2, 16, 17, 11, 18, 23, 24, 25, 26, 27, 28, 29, 30, 31, 32] (by decide +kernel) (by decide +kernel)
set_option maxRecDepth 20000 in
theorem gX3_burn_X3_lights : GoodIn wsX3_burn (wsV RX3 74 RX3 yX3_lights wsX3_lights) := goodIn_app (goodIn_of _ (by decide +kernel)) ggX3_burn_X3_lights
theorem dX3_burn_0 : decode cX3_burn 0 = .ok (.aload_n 0, 1) := by decide +kernel
theorem dX3_burn_1 : decode cX3_burn 1 = .ok (.aload_n 0, 1) := by decide +kernel
theorem dX3_burn_2 : decode cX3_burn 2 = .ok (.getfield 13, 3) := by decide +kernel
theorem dX3_burn_5 : decode cX3_burn 5 = .ok (.iload_n 1, 1) := by decide +kernel
theorem dX3_burn_6 : decode cX3_burn 6 = .ok (.iaload, 1) := by decide +kernel
theorem dX3_burn_7 : decode cX3_burn 7 = .ok (.invokevirtual 62, 3) := by decide +kernel
theorem dX3_burn_10 : decode cX3_burn 10 = .ok (.ifCond .eq 22, 3) := by decide +kernel
theorem dX3_burn_13 : decode cX3_burn 13 = .ok (.aload_n 0, 1) := by decide +kernel
theorem dX3_burn_14 : decode cX3_burn 14 = .ok (.getfield 23, 3) := by decide +kernel
theorem dX3_burn_17 : decode cX3_burn 17 = .ok (.aload_n 0, 1) := by decide +kernel
theorem dX3_burn_18 : decode cX3_burn 18 = .ok (.getfield 13, 3) := by decide +kernel
theorem dX3_burn_21 : decode cX3_burn 21 = .ok (.iload_n 1, 1) := by decide +kernel
theorem dX3_burn_22 : decode cX3_burn 22 = .ok (.iaload, 1) := by decide +kernel
theorem dX3_burn_23 : decode cX3_burn 23 = .ok (.iconst 2, 1) := by decide +kernel
theorem dX3_burn_24 : decode cX3_burn 24 = .ok (.invokestatic 46, 3) := by decide +kernel
theorem dX3_burn_27 : decode cX3_burn 27 = .ok (.iaload, 1) := by decide +kernel
theorem dX3_burn_28 : decode cX3_burn 28 = .ok (.iconst 1, 1) := by decide +kernel
theorem dX3_burn_29 : decode cX3_burn 29 = .ok (.if_icmp .ne 5, 3) := by decide +kernel
theorem dX3_burn_32 : decode cX3_burn 32 = .ok (.iconst 0, 1) := by decide +kernel
theorem dX3_burn_33 : decode cX3_burn 33 = .ok (.ireturn, 1) := by decide +kernel
theorem dX3_burn_34 : decode cX3_burn 34 = .ok (.iload_n 1, 1) := by decide +kernel
theorem dX3_burn_35 : decode cX3_burn 35 = .ok (.iconst 0, 1) := by decide +kernel
theorem dX3_burn_36 : decode cX3_burn 36 = .ok (.invokestatic 59, 3) := by decide +kernel
theorem dX3_burn_39 : decode cX3_burn 39 = .ok (.istore_n 2, 1) := by decide +kernel
theorem dX3_burn_40 : decode cX3_burn 40 = .ok (.aload_n 0, 1) := by decide +kernel
theorem dX3_burn_41 : decode cX3_burn 41 = .ok (.getfield 23, 3) := by decide +kernel
theorem dX3_burn_44 : decode cX3_burn 44 = .ok (.iload_n 2, 1) := by decide +kernel
theorem dX3_burn_45 : decode cX3_burn 45 = .ok (.iconst 0, 1) := by decide +kernel
theorem dX3_burn_46 : decode cX3_burn 46 = .ok (.aload_n 0, 1) := by decide +kernel
theorem dX3_burn_47 : decode cX3_burn 47 = .ok (.getfield 23, 3) := by decide +kernel
theorem dX3_burn_50 : decode cX3_burn 50 = .ok (.iload_n 2, 1) := by decide +kernel
theorem dX3_burn_51 : decode cX3_burn 51 = .ok (.iaload, 1) := by decide +kernel
theorem dX3_burn_52 : decode cX3_burn 52 = .ok (.iconst 1, 1) := by decide +kernel
theorem dX3_burn_53 : decode cX3_burn 53 = .ok (.isub, 1) := by decide +kernel
theorem dX3_burn_54 : decode cX3_burn 54 = .ok (.aload_n 0, 1) := by decide +kernel
theorem dX3_burn_55 : decode cX3_burn 55 = .ok (.getfield 16, 3) := by decide +kernel
theorem dX3_burn_58 : decode cX3_burn 58 = .ok (.iload_n 1, 1) := by decide +kernel
theorem dX3_burn_59 : decode cX3_burn 59 = .ok (.iaload, 1) := by decide +kernel
theorem dX3_burn_60 : decode cX3_burn 60 = .ok (.isub, 1) := by decide +kernel
theorem dX3_burn_61 : decode cX3_burn 61 = .ok (.invokestatic 69, 3) := by decide +kernel
theorem dX3_burn_64 : decode cX3_burn 64 = .ok (.iastore, 1) := by decide +kernel
theorem dX3_burn_65 : decode cX3_burn 65 = .ok (.aload_n 0, 1) := by decide +kernel
theorem dX3_burn_66 : decode cX3_burn 66 = .ok (.getfield 23, 3) := by decide +kernel
theorem dX3_burn_69 : decode cX3_burn 69 = .ok (.iload_n 2, 1) := by decide +kernel
theorem dX3_burn_70 : decode cX3_burn 70 = .ok (.iaload, 1) := by decide +kernel
theorem dX3_burn_71 : decode cX3_burn 71 = .ok (.ifCond .ne 11, 3) := by decide +kernel
theorem dX3_burn_74 : decode cX3_burn 74 = .ok (.aload_n 0, 1) := by decide +kernel
theorem dX3_burn_75 : decode cX3_burn 75 = .ok (.iload_n 1, 1) := by decide +kernel
theorem dX3_burn_76 : decode cX3_burn 76 = .ok (.invokevirtual 74, 3) := by decide +kernel
theorem dX3_burn_79 : decode cX3_burn 79 = .ok (.goto 4, 3) := by decide +kernel
theorem dX3_burn_82 : decode cX3_burn 82 = .ok (.iconst 0, 1) := by decide +kernel
theorem dX3_burn_83 : decode cX3_burn 83 = .ok (.ireturn, 1) := by decide +kernel
set_option maxRecDepth 20000 in
theorem ggX3_nightOn_X3_getOlder : GoodIn wsX3_nightOn wsX3_getOlder := goodIn_r _ [8, 9, 1, 2, 10, 11, 12, 13, 14, 15, 7, 16, 50, 51, 52, 53, 54, 55, 56, 57, 58, 59] (by decide +kernel) (by decide +kernel)
set_option maxRecDepth 20000 in
theorem gX3_nightOn_X3_getOlder : GoodIn wsX3_nightOn (wsV RX3 78 RX3 yX3_getOlder wsX3_getOlder) := goodIn_app (goodIn_of _ (by decide +kernel)) ggX3_nightOn_X3_getOlder
set_option maxRecDepth 20000 in
theorem ggX3_nightOn_X3_ship : GoodIn wsX3_nightOn wsX3_ship := goodIn_r _ [19] (by decide +kernel) (by decide +kernel)
set_option maxRecDepth 20000 in
theorem gX3_nightOn_X3_ship : GoodIn wsX3_nightOn (va_wsS RX3 46 yX3_ship wsX3_ship) := goodIn_app (goodIn_of _ (by decide +kernel)) ggX3_nightOn_X3_ship
set_option maxRecDepth 20000 in
theorem ggX3_nightOn_X3_trust : GoodIn wsX3_nightOn wsX3_trust := goodIn_r _ [23, 9, 2, 14, 15, 7, 16, 50, 51, 52, 53, 54, 55, 56, 57, 58, 59] (by decide +kernel) (by decide +kernel)
set_option maxRecDepth 20000 in
theorem gX3_nightOn_X3_trust : GoodIn wsX3_nightOn (wsV RX3 81 RX3 yX3_trust wsX3_trust) := goodIn_app (goodIn_of _ (by decide +kernel)) ggX3_nightOn_X3_trust
set_option maxRecDepth 20000 in
theorem ggX3_nightOn_X3_burn : GoodIn wsX3_nightOn wsX3_burn := goodIn_r _ [27, 28, 2, 29, 10, 11, 12, 13, 30, 31, 32, 7, 33, 17, 18, 19, 34, 35, 36, 37, 38, 39, 40, 50, 51, 52, 53, 54, 55, 56, 57, 58, 59] (by decide +kernel) (by decide +kernel)
set_option maxRecDepth 20000 in
theorem gX3_nightOn_X3_burn : GoodIn wsX3_nightOn (wsV RX3 84 RX3 yX3_burn wsX3_burn) := goodIn_app (goodIn_of _ (by decide +kernel)) ggX3_nightOn_X3_burn
set_option maxRecDepth 20000 in
theorem ggX3_nightOn_X3_isOut : GoodIn wsX3_nightOn wsX3_isOut := goodIn_r _ [33, 2, 17, 18, 7, 19, 50, 51, 52, 53, 54, 55, 56, 57, 58, 59] (by decide +kernel) (by decide +kernel)
set_option maxRecDepth 20000 in
theorem gX3_nightOn_X3_isOut : GoodIn wsX3_nightOn (wsV RX3 62 RX3 yX3_isOut wsX3_isOut) := goodIn_app (goodIn_of _ (by decide +kernel)) ggX3_nightOn_X3_isOut
set_option maxRecDepth 20000 in
theorem ggX3_nightOn_X3_voters : GoodIn wsX3_nightOn wsX3_voters := goodIn_r _ [44, 3, 28, 45, 2, 34, 35, 7, 36, 50, 51, 52, 53, 54, 55, 56, 57, 58, 59] (by decide +kernel) (by decide +kernel)
set_option maxRecDepth 20000 in
theorem gX3_nightOn_X3_voters : GoodIn wsX3_nightOn (wsV RX3 87 RX3 yX3_voters wsX3_voters) := goodIn_app (goodIn_of _ (by decide +kernel)) ggX3_nightOn_X3_voters
set_option maxRecDepth 20000 in
theorem ggX3_nightOn_X3_end : GoodIn wsX3_nightOn wsX3_end := goodIn_r _ [49, 3, 28, 2, 9, 34, 35, 7, 36, 17, 18, 19, 14, 15, 16, 50, 51, 52, 53, 54, 55, 56, 57, 58, 59] (by decide +kernel) (by decide +kernel)
set_option maxRecDepth 20000 in
theorem gX3_nightOn_X3_end : GoodIn wsX3_nightOn (wsV RX3 91 RX3 yX3_end wsX3_end) := goodIn_app (goodIn_of _ (by decide +kernel)) ggX3_nightOn_X3_end
theorem dX3_nightOn_0 : decode cX3_nightOn 0 = .ok (.aload_n 0, 1) := by decide +kernel
theorem dX3_nightOn_1 : decode cX3_nightOn 1 = .ok (.invokevirtual 78, 3) := by decide +kernel
theorem dX3_nightOn_4 : decode cX3_nightOn 4 = .ok (.iconst 0, 1) := by decide +kernel
theorem dX3_nightOn_5 : decode cX3_nightOn 5 = .ok (.istore_n 1, 1) := by decide +kernel
theorem dX3_nightOn_6 : decode cX3_nightOn 6 = .ok (.iload_n 1, 1) := by decide +kernel
theorem dX3_nightOn_7 : decode cX3_nightOn 7 = .ok (.aload_n 0, 1) := by decide +kernel
theorem dX3_nightOn_8 : decode cX3_nightOn 8 = .ok (.getfield 33, 3) := by decide +kernel
theorem dX3_nightOn_11 : decode cX3_nightOn 11 = .ok (.if_icmp .ge 56, 3) := by decide +kernel
theorem dX3_nightOn_14 : decode cX3_nightOn 14 = .ok (.aload_n 0, 1) := by decide +kernel
theorem dX3_nightOn_15 : decode cX3_nightOn 15 = .ok (.getfield 23, 3) := by decide +kernel
theorem dX3_nightOn_18 : decode cX3_nightOn 18 = .ok (.iload_n 1, 1) := by decide +kernel
theorem dX3_nightOn_19 : decode cX3_nightOn 19 = .ok (.iconst 2, 1) := by decide +kernel
theorem dX3_nightOn_20 : decode cX3_nightOn 20 = .ok (.invokestatic 46, 3) := by decide +kernel
theorem dX3_nightOn_23 : decode cX3_nightOn 23 = .ok (.iaload, 1) := by decide +kernel
theorem dX3_nightOn_24 : decode cX3_nightOn 24 = .ok (.ifCond .eq 37, 3) := by decide +kernel
theorem dX3_nightOn_27 : decode cX3_nightOn 27 = .ok (.aload_n 0, 1) := by decide +kernel
theorem dX3_nightOn_28 : decode cX3_nightOn 28 = .ok (.iload_n 1, 1) := by decide +kernel
theorem dX3_nightOn_29 : decode cX3_nightOn 29 = .ok (.invokevirtual 81, 3) := by decide +kernel
theorem dX3_nightOn_32 : decode cX3_nightOn 32 = .ok (.bipush 6, 2) := by decide +kernel
theorem dX3_nightOn_34 : decode cX3_nightOn 34 = .ok (.if_icmp .lt 6, 3) := by decide +kernel
theorem dX3_nightOn_37 : decode cX3_nightOn 37 = .ok (.goto 24, 3) := by decide +kernel
theorem dX3_nightOn_40 : decode cX3_nightOn 40 = .ok (.aload_n 0, 1) := by decide +kernel
theorem dX3_nightOn_41 : decode cX3_nightOn 41 = .ok (.getfield 23, 3) := by decide +kernel
theorem dX3_nightOn_44 : decode cX3_nightOn 44 = .ok (.iload_n 1, 1) := by decide +kernel
theorem dX3_nightOn_45 : decode cX3_nightOn 45 = .ok (.iconst 2, 1) := by decide +kernel
theorem dX3_nightOn_46 : decode cX3_nightOn 46 = .ok (.invokestatic 46, 3) := by decide +kernel
theorem dX3_nightOn_49 : decode cX3_nightOn 49 = .ok (.iconst 0, 1) := by decide +kernel
theorem dX3_nightOn_50 : decode cX3_nightOn 50 = .ok (.iastore, 1) := by decide +kernel
theorem dX3_nightOn_51 : decode cX3_nightOn 51 = .ok (.aload_n 0, 1) := by decide +kernel
theorem dX3_nightOn_52 : decode cX3_nightOn 52 = .ok (.getfield 23, 3) := by decide +kernel
theorem dX3_nightOn_55 : decode cX3_nightOn 55 = .ok (.iconst 2, 1) := by decide +kernel
theorem dX3_nightOn_56 : decode cX3_nightOn 56 = .ok (.dup2, 1) := by decide +kernel
theorem dX3_nightOn_57 : decode cX3_nightOn 57 = .ok (.iaload, 1) := by decide +kernel
theorem dX3_nightOn_58 : decode cX3_nightOn 58 = .ok (.iconst 1, 1) := by decide +kernel
theorem dX3_nightOn_59 : decode cX3_nightOn 59 = .ok (.iadd, 1) := by decide +kernel
theorem dX3_nightOn_60 : decode cX3_nightOn 60 = .ok (.iastore, 1) := by decide +kernel
theorem dX3_nightOn_61 : decode cX3_nightOn 61 = .ok (.iinc 1 1, 3) := by decide +kernel
theorem dX3_nightOn_64 : decode cX3_nightOn 64 = .ok (.goto (-58), 3) := by decide +kernel
theorem dX3_nightOn_67 : decode cX3_nightOn 67 = .ok (.iconst 0, 1) := by decide +kernel
theorem dX3_nightOn_68 : decode cX3_nightOn 68 = .ok (.istore_n 1, 1) := by decide +kernel
theorem dX3_nightOn_69 : decode cX3_nightOn 69 = .ok (.iconst 0, 1) := by decide +kernel
theorem dX3_nightOn_70 : decode cX3_nightOn 70 = .ok (.istore_n 2, 1) := by decide +kernel
theorem dX3_nightOn_71 : decode cX3_nightOn 71 = .ok (.iload_n 2, 1) := by decide +kernel
theorem dX3_nightOn_72 : decode cX3_nightOn 72 = .ok (.aload_n 0, 1) := by decide +kernel
theorem dX3_nightOn_73 : decode cX3_nightOn 73 = .ok (.getfield 40, 3) := by decide +kernel
theorem dX3_nightOn_76 : decode cX3_nightOn 76 = .ok (.if_icmp .ge 17, 3) := by decide +kernel
theorem dX3_nightOn_79 : decode cX3_nightOn 79 = .ok (.iload_n 1, 1) := by decide +kernel
theorem dX3_nightOn_80 : decode cX3_nightOn 80 = .ok (.aload_n 0, 1) := by decide +kernel
theorem dX3_nightOn_81 : decode cX3_nightOn 81 = .ok (.iload_n 2, 1) := by decide +kernel
theorem dX3_nightOn_82 : decode cX3_nightOn 82 = .ok (.invokevirtual 84, 3) := by decide +kernel
theorem dX3_nightOn_85 : decode cX3_nightOn 85 = .ok (.iadd, 1) := by decide +kernel
theorem dX3_nightOn_86 : decode cX3_nightOn 86 = .ok (.istore_n 1, 1) := by decide +kernel
theorem dX3_nightOn_87 : decode cX3_nightOn 87 = .ok (.iinc 2 1, 3) := by decide +kernel
theorem dX3_nightOn_90 : decode cX3_nightOn 90 = .ok (.goto (-19), 3) := by decide +kernel
theorem dX3_nightOn_93 : decode cX3_nightOn 93 = .ok (.iconst 0, 1) := by decide +kernel
theorem dX3_nightOn_94 : decode cX3_nightOn 94 = .ok (.istore_n 2, 1) := by decide +kernel
theorem dX3_nightOn_95 : decode cX3_nightOn 95 = .ok (.iload_n 2, 1) := by decide +kernel
theorem dX3_nightOn_96 : decode cX3_nightOn 96 = .ok (.aload_n 0, 1) := by decide +kernel
theorem dX3_nightOn_97 : decode cX3_nightOn 97 = .ok (.getfield 33, 3) := by decide +kernel
theorem dX3_nightOn_100 : decode cX3_nightOn 100 = .ok (.if_icmp .ge 85, 3) := by decide +kernel
theorem dX3_nightOn_103 : decode cX3_nightOn 103 = .ok (.aload_n 0, 1) := by decide +kernel
theorem dX3_nightOn_104 : decode cX3_nightOn 104 = .ok (.iload_n 2, 1) := by decide +kernel
theorem dX3_nightOn_105 : decode cX3_nightOn 105 = .ok (.invokevirtual 62, 3) := by decide +kernel
theorem dX3_nightOn_108 : decode cX3_nightOn 108 = .ok (.ifCond .ne 6, 3) := by decide +kernel
theorem dX3_nightOn_111 : decode cX3_nightOn 111 = .ok (.goto 68, 3) := by decide +kernel
theorem dX3_nightOn_114 : decode cX3_nightOn 114 = .ok (.aload_n 0, 1) := by decide +kernel
theorem dX3_nightOn_115 : decode cX3_nightOn 115 = .ok (.getfield 23, 3) := by decide +kernel
theorem dX3_nightOn_118 : decode cX3_nightOn 118 = .ok (.iload_n 2, 1) := by decide +kernel
theorem dX3_nightOn_119 : decode cX3_nightOn 119 = .ok (.iconst 1, 1) := by decide +kernel
theorem dX3_nightOn_120 : decode cX3_nightOn 120 = .ok (.invokestatic 46, 3) := by decide +kernel
theorem dX3_nightOn_123 : decode cX3_nightOn 123 = .ok (.dup2, 1) := by decide +kernel
theorem dX3_nightOn_124 : decode cX3_nightOn 124 = .ok (.iaload, 1) := by decide +kernel
theorem dX3_nightOn_125 : decode cX3_nightOn 125 = .ok (.iconst 1, 1) := by decide +kernel
theorem dX3_nightOn_126 : decode cX3_nightOn 126 = .ok (.iadd, 1) := by decide +kernel
theorem dX3_nightOn_127 : decode cX3_nightOn 127 = .ok (.iastore, 1) := by decide +kernel
theorem dX3_nightOn_128 : decode cX3_nightOn 128 = .ok (.aload_n 0, 1) := by decide +kernel
theorem dX3_nightOn_129 : decode cX3_nightOn 129 = .ok (.getfield 23, 3) := by decide +kernel
theorem dX3_nightOn_132 : decode cX3_nightOn 132 = .ok (.iload_n 2, 1) := by decide +kernel
theorem dX3_nightOn_133 : decode cX3_nightOn 133 = .ok (.iconst 1, 1) := by decide +kernel
theorem dX3_nightOn_134 : decode cX3_nightOn 134 = .ok (.invokestatic 46, 3) := by decide +kernel
theorem dX3_nightOn_137 : decode cX3_nightOn 137 = .ok (.iaload, 1) := by decide +kernel
theorem dX3_nightOn_138 : decode cX3_nightOn 138 = .ok (.bipush 20, 2) := by decide +kernel
theorem dX3_nightOn_140 : decode cX3_nightOn 140 = .ok (.if_icmp .le 39, 3) := by decide +kernel
theorem dX3_nightOn_143 : decode cX3_nightOn 143 = .ok (.iconst 2, 1) := by decide +kernel
theorem dX3_nightOn_144 : decode cX3_nightOn 144 = .ok (.aload_n 0, 1) := by decide +kernel
theorem dX3_nightOn_145 : decode cX3_nightOn 145 = .ok (.iload_n 2, 1) := by decide +kernel
theorem dX3_nightOn_146 : decode cX3_nightOn 146 = .ok (.iconst 1, 1) := by decide +kernel
theorem dX3_nightOn_147 : decode cX3_nightOn 147 = .ok (.invokevirtual 87, 3) := by decide +kernel
theorem dX3_nightOn_150 : decode cX3_nightOn 150 = .ok (.imul, 1) := by decide +kernel
theorem dX3_nightOn_151 : decode cX3_nightOn 151 = .ok (.aload_n 0, 1) := by decide +kernel
theorem dX3_nightOn_152 : decode cX3_nightOn 152 = .ok (.iload_n 2, 1) := by decide +kernel
theorem dX3_nightOn_153 : decode cX3_nightOn 153 = .ok (.iconst 0, 1) := by decide +kernel
theorem dX3_nightOn_154 : decode cX3_nightOn 154 = .ok (.invokevirtual 87, 3) := by decide +kernel
theorem dX3_nightOn_157 : decode cX3_nightOn 157 = .ok (.if_icmp .gt 6, 3) := by decide +kernel
theorem dX3_nightOn_160 : decode cX3_nightOn 160 = .ok (.goto 19, 3) := by decide +kernel
theorem dX3_nightOn_163 : decode cX3_nightOn 163 = .ok (.aload_n 0, 1) := by decide +kernel
theorem dX3_nightOn_164 : decode cX3_nightOn 164 = .ok (.getfield 23, 3) := by decide +kernel
theorem dX3_nightOn_167 : decode cX3_nightOn 167 = .ok (.iload_n 2, 1) := by decide +kernel
theorem dX3_nightOn_168 : decode cX3_nightOn 168 = .ok (.iconst 0, 1) := by decide +kernel
theorem dX3_nightOn_169 : decode cX3_nightOn 169 = .ok (.invokestatic 46, 3) := by decide +kernel
theorem dX3_nightOn_172 : decode cX3_nightOn 172 = .ok (.iconst 2, 1) := by decide +kernel
theorem dX3_nightOn_173 : decode cX3_nightOn 173 = .ok (.iastore, 1) := by decide +kernel
theorem dX3_nightOn_174 : decode cX3_nightOn 174 = .ok (.aload_n 0, 1) := by decide +kernel
theorem dX3_nightOn_175 : decode cX3_nightOn 175 = .ok (.iload_n 2, 1) := by decide +kernel
theorem dX3_nightOn_176 : decode cX3_nightOn 176 = .ok (.invokevirtual 91, 3) := by decide +kernel
theorem dX3_nightOn_179 : decode cX3_nightOn 179 = .ok (.iinc 2 1, 3) := by decide +kernel
theorem dX3_nightOn_182 : decode cX3_nightOn 182 = .ok (.goto (-87), 3) := by decide +kernel
theorem dX3_nightOn_185 : decode cX3_nightOn 185 = .ok (.aload_n 0, 1) := by decide +kernel
theorem dX3_nightOn_186 : decode cX3_nightOn 186 = .ok (.getfield 23, 3) := by decide +kernel
theorem dX3_nightOn_189 : decode cX3_nightOn 189 = .ok (.iconst 0, 1) := by decide +kernel
theorem dX3_nightOn_190 : decode cX3_nightOn 190 = .ok (.dup2, 1) := by decide +kernel
theorem dX3_nightOn_191 : decode cX3_nightOn 191 = .ok (.iaload, 1) := by decide +kernel
theorem dX3_nightOn_192 : decode cX3_nightOn 192 = .ok (.iconst 1, 1) := by decide +kernel
theorem dX3_nightOn_193 : decode cX3_nightOn 193 = .ok (.iadd, 1) := by decide +kernel
theorem dX3_nightOn_194 : decode cX3_nightOn 194 = .ok (.iastore, 1) := by decide +kernel
theorem dX3_nightOn_195 : decode cX3_nightOn 195 = .ok (.iload_n 1, 1) := by decide +kernel
theorem dX3_nightOn_196 : decode cX3_nightOn 196 = .ok (.ireturn, 1) := by decide +kernel
set_option maxRecDepth 20000 in
theorem ggX3_addShip_X3_isIn : GoodIn wsX3_addShip wsX3_isIn := goodIn_r _ [7] (by decide +kernel) (by decide +kernel)
set_option maxRecDepth 20000 in
theorem gX3_addShip_X3_isIn : GoodIn wsX3_addShip (va_wsS RX3 36 yX3_isIn wsX3_isIn) := goodIn_app (goodIn_of _ (by decide +kernel)) ggX3_addShip_X3_isIn
set_option maxRecDepth 20000 in
theorem ggX3_addShip_X3_no : GoodIn wsX3_addShip wsX3_no := goodIn_r _ [11, 1, 12, 13, 14, 15, 16, 17, 18, 19, 20, 21] (by decide +kernel) (by decide +kernel)
set_option maxRecDepth 20000 in
theorem gX3_addShip_X3_no : GoodIn wsX3_addShip (wsV RX3 95 RX3 yX3_no wsX3_no) := goodIn_app (goodIn_of _ (by decide +kernel)) ggX3_addShip_X3_no
theorem dX3_addShip_0 : decode cX3_addShip 0 = .ok (.aload_n 0, 1) := by decide +kernel
theorem dX3_addShip_1 : decode cX3_addShip 1 = .ok (.iconst 0, 1) := by decide +kernel
theorem dX3_addShip_2 : decode cX3_addShip 2 = .ok (.putfield 29, 3) := by decide +kernel
theorem dX3_addShip_5 : decode cX3_addShip 5 = .ok (.iload_n 1, 1) := by decide +kernel
theorem dX3_addShip_6 : decode cX3_addShip 6 = .ok (.iconst 1, 1) := by decide +kernel
theorem dX3_addShip_7 : decode cX3_addShip 7 = .ok (.iconst 3, 1) := by decide +kernel
theorem dX3_addShip_8 : decode cX3_addShip 8 = .ok (.invokestatic 36, 3) := by decide +kernel
theorem dX3_addShip_11 : decode cX3_addShip 11 = .ok (.ifCond .ne 9, 3) := by decide +kernel
theorem dX3_addShip_14 : decode cX3_addShip 14 = .ok (.aload_n 0, 1) := by decide +kernel
theorem dX3_addShip_15 : decode cX3_addShip 15 = .ok (.iconst 1, 1) := by decide +kernel
theorem dX3_addShip_16 : decode cX3_addShip 16 = .ok (.invokevirtual 95, 3) := by decide +kernel
theorem dX3_addShip_19 : decode cX3_addShip 19 = .ok (.ireturn, 1) := by decide +kernel
theorem dX3_addShip_20 : decode cX3_addShip 20 = .ok (.aload_n 0, 1) := by decide +kernel
theorem dX3_addShip_21 : decode cX3_addShip 21 = .ok (.getfield 33, 3) := by decide +kernel
theorem dX3_addShip_24 : decode cX3_addShip 24 = .ok (.iconst 5, 1) := by decide +kernel
theorem dX3_addShip_25 : decode cX3_addShip 25 = .ok (.if_icmp .ne 9, 3) := by decide +kernel
theorem dX3_addShip_28 : decode cX3_addShip 28 = .ok (.aload_n 0, 1) := by decide +kernel
theorem dX3_addShip_29 : decode cX3_addShip 29 = .ok (.iconst 2, 1) := by decide +kernel
theorem dX3_addShip_30 : decode cX3_addShip 30 = .ok (.invokevirtual 95, 3) := by decide +kernel
theorem dX3_addShip_33 : decode cX3_addShip 33 = .ok (.ireturn, 1) := by decide +kernel
theorem dX3_addShip_34 : decode cX3_addShip 34 = .ok (.aload_n 0, 1) := by decide +kernel
theorem dX3_addShip_35 : decode cX3_addShip 35 = .ok (.getfield 9, 3) := by decide +kernel
theorem dX3_addShip_38 : decode cX3_addShip 38 = .ok (.aload_n 0, 1) := by decide +kernel
theorem dX3_addShip_39 : decode cX3_addShip 39 = .ok (.getfield 33, 3) := by decide +kernel
theorem dX3_addShip_42 : decode cX3_addShip 42 = .ok (.iload_n 1, 1) := by decide +kernel
theorem dX3_addShip_43 : decode cX3_addShip 43 = .ok (.iastore, 1) := by decide +kernel
theorem dX3_addShip_44 : decode cX3_addShip 44 = .ok (.aload_n 0, 1) := by decide +kernel
theorem dX3_addShip_45 : decode cX3_addShip 45 = .ok (.dup, 1) := by decide +kernel
theorem dX3_addShip_46 : decode cX3_addShip 46 = .ok (.getfield 33, 3) := by decide +kernel
theorem dX3_addShip_49 : decode cX3_addShip 49 = .ok (.iconst 1, 1) := by decide +kernel
theorem dX3_addShip_50 : decode cX3_addShip 50 = .ok (.iadd, 1) := by decide +kernel
theorem dX3_addShip_51 : decode cX3_addShip 51 = .ok (.putfield 33, 3) := by decide +kernel
theorem dX3_addShip_54 : decode cX3_addShip 54 = .ok (.aload_n 0, 1) := by decide +kernel
theorem dX3_addShip_55 : decode cX3_addShip 55 = .ok (.getfield 33, 3) := by decide +kernel
theorem dX3_addShip_58 : decode cX3_addShip 58 = .ok (.iconst 1, 1) := by decide +kernel
theorem dX3_addShip_59 : decode cX3_addShip 59 = .ok (.isub, 1) := by decide +kernel
theorem dX3_addShip_60 : decode cX3_addShip 60 = .ok (.ireturn, 1) := by decide +kernel
set_option maxRecDepth 20000 in
theorem ggX3_addSailor_X3_isShip : GoodIn wsX3_addSailor wsX3_isShip := goodIn_r _ [12, 13, 14, 15, 11, 16, 24, 25, 26, 27, 28, 29, 30, 31, 32, 33] (by decide +kernel) (by decide +kernel)
set_option maxRecDepth 20000 in
theorem gX3_addSailor_X3_isShip : GoodIn wsX3_addSailor (wsV RX3 98 RX3 yX3_isShip wsX3_isShip) := goodIn_app (goodIn_of _ (by decide +kernel)) ggX3_addSailor_X3_isShip
set_option maxRecDepth 20000 in
theorem ggX3_addSailor_X3_isIn : GoodIn wsX3_addSailor wsX3_isIn := goodIn_r _ [16] (by decide +kernel) (by decide +kernel)
set_option maxRecDepth 20000 in
theorem gX3_addSailor_X3_isIn : GoodIn wsX3_addSailor (va_wsS RX3 36 yX3_isIn wsX3_isIn) := goodIn_app (goodIn_of _ (by decide +kernel)) ggX3_addSailor_X3_isIn
set_option maxRecDepth 20000 in
theorem ggX3_addSailor_X3_no : GoodIn wsX3_addSailor wsX3_no := goodIn_r _ [20, 1, 24, 25, 26, 27, 28, 29, 30, 31, 32, 33] (by decide +kernel) (by decide +kernel)
set_option maxRecDepth 20000 in
theorem gX3_addSailor_X3_no : GoodIn wsX3_addSailor (wsV RX3 95 RX3 yX3_no wsX3_no) := goodIn_app (goodIn_of _ (by decide +kernel)) ggX3_addSailor_X3_no
set_option maxRecDepth 20000 in
theorem ggX3_addSailor_X3_ship : GoodIn wsX3_addSailor wsX3_ship := goodIn_r _ [23] (by decide +kernel) (by decide +kernel)
set_option maxRecDepth 20000 in
theorem gX3_addSailor_X3_ship : GoodIn wsX3_addSailor (va_wsS RX3 46 yX3_ship wsX3_ship) := goodIn_app (goodIn_of _ (by decide +kernel)) ggX3_addSailor_X3_ship
theorem dX3_addSailor_0 : decode cX3_addSailor 0 = .ok (.aload_n 0, 1) := by decide +kernel
theorem dX3_addSailor_1 : decode cX3_addSailor 1 = .ok (.iconst 0, 1) := by decide +kernel
theorem dX3_addSailor_2 : decode cX3_addSailor 2 = .ok (.putfield 29, 3) := by decide +kernel
theorem dX3_addSailor_5 : decode cX3_addSailor 5 = .ok (.aload_n 0, 1) := by decide +kernel
theorem dX3_addSailor_6 : decode cX3_addSailor 6 = .ok (.iload_n 1, 1) := by decide +kernel
theorem dX3_addSailor_7 : decode cX3_addSailor 7 = .ok (.invokevirtual 98, 3) := by decide +kernel
theorem dX3_addSailor_10 : decode cX3_addSailor 10 = .ok (.ifCond .eq 19, 3) := by decide +kernel
theorem dX3_addSailor_13 : decode cX3_addSailor 13 = .ok (.iload_n 2, 1) := by decide +kernel
theorem dX3_addSailor_14 : decode cX3_addSailor 14 = .ok (.iconst 0, 1) := by decide +kernel
theorem dX3_addSailor_15 : decode cX3_addSailor 15 = .ok (.aload_n 0, 1) := by decide +kernel
theorem dX3_addSailor_16 : decode cX3_addSailor 16 = .ok (.getfield 9, 3) := by decide +kernel
theorem dX3_addSailor_19 : decode cX3_addSailor 19 = .ok (.iload_n 1, 1) := by decide +kernel
theorem dX3_addSailor_20 : decode cX3_addSailor 20 = .ok (.iaload, 1) := by decide +kernel
theorem dX3_addSailor_21 : decode cX3_addSailor 21 = .ok (.iconst 1, 1) := by decide +kernel
theorem dX3_addSailor_22 : decode cX3_addSailor 22 = .ok (.isub, 1) := by decide +kernel
theorem dX3_addSailor_23 : decode cX3_addSailor 23 = .ok (.invokestatic 36, 3) := by decide +kernel
theorem dX3_addSailor_26 : decode cX3_addSailor 26 = .ok (.ifCond .ne 9, 3) := by decide +kernel
theorem dX3_addSailor_29 : decode cX3_addSailor 29 = .ok (.aload_n 0, 1) := by decide +kernel
theorem dX3_addSailor_30 : decode cX3_addSailor 30 = .ok (.iconst 1, 1) := by decide +kernel
theorem dX3_addSailor_31 : decode cX3_addSailor 31 = .ok (.invokevirtual 95, 3) := by decide +kernel
theorem dX3_addSailor_34 : decode cX3_addSailor 34 = .ok (.ireturn, 1) := by decide +kernel
theorem dX3_addSailor_35 : decode cX3_addSailor 35 = .ok (.aload_n 0, 1) := by decide +kernel
theorem dX3_addSailor_36 : decode cX3_addSailor 36 = .ok (.getfield 23, 3) := by decide +kernel
theorem dX3_addSailor_39 : decode cX3_addSailor 39 = .ok (.iload_n 1, 1) := by decide +kernel
theorem dX3_addSailor_40 : decode cX3_addSailor 40 = .ok (.iconst 0, 1) := by decide +kernel
theorem dX3_addSailor_41 : decode cX3_addSailor 41 = .ok (.invokestatic 46, 3) := by decide +kernel
theorem dX3_addSailor_44 : decode cX3_addSailor 44 = .ok (.iaload, 1) := by decide +kernel
theorem dX3_addSailor_45 : decode cX3_addSailor 45 = .ok (.ifCond .ne 12, 3) := by decide +kernel
theorem dX3_addSailor_48 : decode cX3_addSailor 48 = .ok (.aload_n 0, 1) := by decide +kernel
theorem dX3_addSailor_49 : decode cX3_addSailor 49 = .ok (.getfield 40, 3) := by decide +kernel
theorem dX3_addSailor_52 : decode cX3_addSailor 52 = .ok (.bipush 16, 2) := by decide +kernel
theorem dX3_addSailor_54 : decode cX3_addSailor 54 = .ok (.if_icmp .ne 9, 3) := by decide +kernel
theorem dX3_addSailor_57 : decode cX3_addSailor 57 = .ok (.aload_n 0, 1) := by decide +kernel
theorem dX3_addSailor_58 : decode cX3_addSailor 58 = .ok (.iconst 2, 1) := by decide +kernel
theorem dX3_addSailor_59 : decode cX3_addSailor 59 = .ok (.invokevirtual 95, 3) := by decide +kernel
theorem dX3_addSailor_62 : decode cX3_addSailor 62 = .ok (.ireturn, 1) := by decide +kernel
theorem dX3_addSailor_63 : decode cX3_addSailor 63 = .ok (.aload_n 0, 1) := by decide +kernel
theorem dX3_addSailor_64 : decode cX3_addSailor 64 = .ok (.getfield 13, 3) := by decide +kernel
theorem dX3_addSailor_67 : decode cX3_addSailor 67 = .ok (.aload_n 0, 1) := by decide +kernel
theorem dX3_addSailor_68 : decode cX3_addSailor 68 = .ok (.getfield 40, 3) := by decide +kernel
theorem dX3_addSailor_71 : decode cX3_addSailor 71 = .ok (.iload_n 1, 1) := by decide +kernel
theorem dX3_addSailor_72 : decode cX3_addSailor 72 = .ok (.iastore, 1) := by decide +kernel
theorem dX3_addSailor_73 : decode cX3_addSailor 73 = .ok (.aload_n 0, 1) := by decide +kernel
theorem dX3_addSailor_74 : decode cX3_addSailor 74 = .ok (.getfield 16, 3) := by decide +kernel
theorem dX3_addSailor_77 : decode cX3_addSailor 77 = .ok (.aload_n 0, 1) := by decide +kernel
theorem dX3_addSailor_78 : decode cX3_addSailor 78 = .ok (.getfield 40, 3) := by decide +kernel
theorem dX3_addSailor_81 : decode cX3_addSailor 81 = .ok (.iload_n 2, 1) := by decide +kernel
theorem dX3_addSailor_82 : decode cX3_addSailor 82 = .ok (.iastore, 1) := by decide +kernel
theorem dX3_addSailor_83 : decode cX3_addSailor 83 = .ok (.aload_n 0, 1) := by decide +kernel
theorem dX3_addSailor_84 : decode cX3_addSailor 84 = .ok (.getfield 19, 3) := by decide +kernel
theorem dX3_addSailor_87 : decode cX3_addSailor 87 = .ok (.aload_n 0, 1) := by decide +kernel
theorem dX3_addSailor_88 : decode cX3_addSailor 88 = .ok (.getfield 40, 3) := by decide +kernel
theorem dX3_addSailor_91 : decode cX3_addSailor 91 = .ok (.iload_n 3, 1) := by decide +kernel
theorem dX3_addSailor_92 : decode cX3_addSailor 92 = .ok (.bastore, 1) := by decide +kernel
theorem dX3_addSailor_93 : decode cX3_addSailor 93 = .ok (.aload_n 0, 1) := by decide +kernel
theorem dX3_addSailor_94 : decode cX3_addSailor 94 = .ok (.dup, 1) := by decide +kernel
theorem dX3_addSailor_95 : decode cX3_addSailor 95 = .ok (.getfield 40, 3) := by decide +kernel
theorem dX3_addSailor_98 : decode cX3_addSailor 98 = .ok (.iconst 1, 1) := by decide +kernel
theorem dX3_addSailor_99 : decode cX3_addSailor 99 = .ok (.iadd, 1) := by decide +kernel
theorem dX3_addSailor_100 : decode cX3_addSailor 100 = .ok (.putfield 40, 3) := by decide +kernel
theorem dX3_addSailor_103 : decode cX3_addSailor 103 = .ok (.aload_n 0, 1) := by decide +kernel
theorem dX3_addSailor_104 : decode cX3_addSailor 104 = .ok (.getfield 40, 3) := by decide +kernel
theorem dX3_addSailor_107 : decode cX3_addSailor 107 = .ok (.iconst 1, 1) := by decide +kernel
theorem dX3_addSailor_108 : decode cX3_addSailor 108 = .ok (.isub, 1) := by decide +kernel
theorem dX3_addSailor_109 : decode cX3_addSailor 109 = .ok (.ireturn, 1) := by decide +kernel
set_option maxRecDepth 20000 in
theorem ggX3_addWatcher_X3_no : GoodIn wsX3_addWatcher wsX3_no := goodIn_r _ [8, 1, 9, 10, 11, 12, 13, 14, 15, 16, 17, 18] (by decide +kernel) (by decide +kernel)
set_option maxRecDepth 20000 in
theorem gX3_addWatcher_X3_no : GoodIn wsX3_addWatcher (wsV RX3 95 RX3 yX3_no wsX3_no) := goodIn_app (goodIn_of _ (by decide +kernel)) ggX3_addWatcher_X3_no
theorem dX3_addWatcher_0 : decode cX3_addWatcher 0 = .ok (.aload_n 0, 1) := by decide +kernel
theorem dX3_addWatcher_1 : decode cX3_addWatcher 1 = .ok (.iconst 0, 1) := by decide +kernel
theorem dX3_addWatcher_2 : decode cX3_addWatcher 2 = .ok (.putfield 29, 3) := by decide +kernel
theorem dX3_addWatcher_5 : decode cX3_addWatcher 5 = .ok (.aload_n 0, 1) := by decide +kernel
theorem dX3_addWatcher_6 : decode cX3_addWatcher 6 = .ok (.getfield 43, 3) := by decide +kernel
theorem dX3_addWatcher_9 : decode cX3_addWatcher 9 = .ok (.iconst 4, 1) := by decide +kernel
theorem dX3_addWatcher_10 : decode cX3_addWatcher 10 = .ok (.if_icmp .ne 9, 3) := by decide +kernel
theorem dX3_addWatcher_13 : decode cX3_addWatcher 13 = .ok (.aload_n 0, 1) := by decide +kernel
theorem dX3_addWatcher_14 : decode cX3_addWatcher 14 = .ok (.iconst 1, 1) := by decide +kernel
theorem dX3_addWatcher_15 : decode cX3_addWatcher 15 = .ok (.invokevirtual 95, 3) := by decide +kernel
theorem dX3_addWatcher_18 : decode cX3_addWatcher 18 = .ok (.ireturn, 1) := by decide +kernel
theorem dX3_addWatcher_19 : decode cX3_addWatcher 19 = .ok (.aload_n 0, 1) := by decide +kernel
theorem dX3_addWatcher_20 : decode cX3_addWatcher 20 = .ok (.getfield 23, 3) := by decide +kernel
theorem dX3_addWatcher_23 : decode cX3_addWatcher 23 = .ok (.bipush 50, 2) := by decide +kernel
theorem dX3_addWatcher_25 : decode cX3_addWatcher 25 = .ok (.aload_n 0, 1) := by decide +kernel
theorem dX3_addWatcher_26 : decode cX3_addWatcher 26 = .ok (.getfield 43, 3) := by decide +kernel
theorem dX3_addWatcher_29 : decode cX3_addWatcher 29 = .ok (.iadd, 1) := by decide +kernel
theorem dX3_addWatcher_30 : decode cX3_addWatcher 30 = .ok (.iconst 5, 1) := by decide +kernel
theorem dX3_addWatcher_31 : decode cX3_addWatcher 31 = .ok (.iastore, 1) := by decide +kernel
theorem dX3_addWatcher_32 : decode cX3_addWatcher 32 = .ok (.aload_n 0, 1) := by decide +kernel
theorem dX3_addWatcher_33 : decode cX3_addWatcher 33 = .ok (.dup, 1) := by decide +kernel
theorem dX3_addWatcher_34 : decode cX3_addWatcher 34 = .ok (.getfield 43, 3) := by decide +kernel
theorem dX3_addWatcher_37 : decode cX3_addWatcher 37 = .ok (.iconst 1, 1) := by decide +kernel
theorem dX3_addWatcher_38 : decode cX3_addWatcher 38 = .ok (.iadd, 1) := by decide +kernel
theorem dX3_addWatcher_39 : decode cX3_addWatcher 39 = .ok (.putfield 43, 3) := by decide +kernel
theorem dX3_addWatcher_42 : decode cX3_addWatcher 42 = .ok (.aload_n 0, 1) := by decide +kernel
theorem dX3_addWatcher_43 : decode cX3_addWatcher 43 = .ok (.getfield 43, 3) := by decide +kernel
theorem dX3_addWatcher_46 : decode cX3_addWatcher 46 = .ok (.iconst 1, 1) := by decide +kernel
theorem dX3_addWatcher_47 : decode cX3_addWatcher 47 = .ok (.isub, 1) := by decide +kernel
theorem dX3_addWatcher_48 : decode cX3_addWatcher 48 = .ok (.ireturn, 1) := by decide +kernel
set_option maxRecDepth 20000 in
theorem ggX3_buyWax_X3_isIn : GoodIn wsX3_buyWax wsX3_isIn := goodIn_r _ [6] (by decide +kernel) (by decide +kernel)
set_option maxRecDepth 20000 in
theorem gX3_buyWax_X3_isIn : GoodIn wsX3_buyWax (va_wsS RX3 36 yX3_isIn wsX3_isIn) := goodIn_app (goodIn_of _ (by decide +kernel)) ggX3_buyWax_X3_isIn
set_option maxRecDepth 20000 in
theorem ggX3_buyWax_X3_no : GoodIn wsX3_buyWax wsX3_no := goodIn_r _ [10, 1, 11, 12, 13, 14, 15, 16, 17, 18, 19, 20] (by decide +kernel) (by decide +kernel)
set_option maxRecDepth 20000 in
theorem gX3_buyWax_X3_no : GoodIn wsX3_buyWax (wsV RX3 95 RX3 yX3_no wsX3_no) := goodIn_app (goodIn_of _ (by decide +kernel)) ggX3_buyWax_X3_no
theorem dX3_buyWax_0 : decode cX3_buyWax 0 = .ok (.aload_n 0, 1) := by decide +kernel
theorem dX3_buyWax_1 : decode cX3_buyWax 1 = .ok (.iconst 0, 1) := by decide +kernel
theorem dX3_buyWax_2 : decode cX3_buyWax 2 = .ok (.putfield 29, 3) := by decide +kernel
theorem dX3_buyWax_5 : decode cX3_buyWax 5 = .ok (.iload_n 1, 1) := by decide +kernel
theorem dX3_buyWax_6 : decode cX3_buyWax 6 = .ok (.iconst 1, 1) := by decide +kernel
theorem dX3_buyWax_7 : decode cX3_buyWax 7 = .ok (.sipush 500, 3) := by decide +kernel
theorem dX3_buyWax_10 : decode cX3_buyWax 10 = .ok (.invokestatic 36, 3) := by decide +kernel
theorem dX3_buyWax_13 : decode cX3_buyWax 13 = .ok (.ifCond .ne 9, 3) := by decide +kernel
theorem dX3_buyWax_16 : decode cX3_buyWax 16 = .ok (.aload_n 0, 1) := by decide +kernel
theorem dX3_buyWax_17 : decode cX3_buyWax 17 = .ok (.iconst 1, 1) := by decide +kernel
theorem dX3_buyWax_18 : decode cX3_buyWax 18 = .ok (.invokevirtual 95, 3) := by decide +kernel
theorem dX3_buyWax_21 : decode cX3_buyWax 21 = .ok (.ireturn, 1) := by decide +kernel
theorem dX3_buyWax_22 : decode cX3_buyWax 22 = .ok (.aload_n 0, 1) := by decide +kernel
theorem dX3_buyWax_23 : decode cX3_buyWax 23 = .ok (.getfield 23, 3) := by decide +kernel
theorem dX3_buyWax_26 : decode cX3_buyWax 26 = .ok (.iconst 1, 1) := by decide +kernel
theorem dX3_buyWax_27 : decode cX3_buyWax 27 = .ok (.dup2, 1) := by decide +kernel
theorem dX3_buyWax_28 : decode cX3_buyWax 28 = .ok (.iaload, 1) := by decide +kernel
theorem dX3_buyWax_29 : decode cX3_buyWax 29 = .ok (.iload_n 1, 1) := by decide +kernel
theorem dX3_buyWax_30 : decode cX3_buyWax 30 = .ok (.iadd, 1) := by decide +kernel
theorem dX3_buyWax_31 : decode cX3_buyWax 31 = .ok (.iastore, 1) := by decide +kernel
theorem dX3_buyWax_32 : decode cX3_buyWax 32 = .ok (.aload_n 0, 1) := by decide +kernel
theorem dX3_buyWax_33 : decode cX3_buyWax 33 = .ok (.getfield 23, 3) := by decide +kernel
theorem dX3_buyWax_36 : decode cX3_buyWax 36 = .ok (.iconst 1, 1) := by decide +kernel
theorem dX3_buyWax_37 : decode cX3_buyWax 37 = .ok (.iaload, 1) := by decide +kernel
theorem dX3_buyWax_38 : decode cX3_buyWax 38 = .ok (.ireturn, 1) := by decide +kernel
set_option maxRecDepth 20000 in
theorem ggX3_sail_X3_isShip : GoodIn wsX3_sail wsX3_isShip := goodIn_r _ [9, 10, 11, 12, 8, 13, 28, 29, 30, 31, 32, 33, 34, 35, 36, 37] (by decide +kernel) (by decide +kernel)
set_option maxRecDepth 20000 in
theorem gX3_sail_X3_isShip : GoodIn wsX3_sail (wsV RX3 98 RX3 yX3_isShip wsX3_isShip) := goodIn_app (goodIn_of _ (by decide +kernel)) ggX3_sail_X3_isShip
set_option maxRecDepth 20000 in
theorem ggX3_sail_X3_no : GoodIn wsX3_sail wsX3_no := goodIn_r _ [17, 1, 28, 29, 30, 31, 32, 33, 34, 35, 36, 37] (by decide +kernel) (by decide +kernel)
set_option maxRecDepth 20000 in
theorem gX3_sail_X3_no : GoodIn wsX3_sail (wsV RX3 95 RX3 yX3_no wsX3_no) := goodIn_app (goodIn_of _ (by decide +kernel)) ggX3_sail_X3_no
set_option maxRecDepth 20000 in
theorem ggX3_sail_X3_ship : GoodIn wsX3_sail wsX3_ship := goodIn_r _ [20] (by decide +kernel) (by decide +kernel)
set_option maxRecDepth 20000 in
theorem gX3_sail_X3_ship : GoodIn wsX3_sail (va_wsS RX3 46 yX3_ship wsX3_ship) := goodIn_app (goodIn_of _ (by decide +kernel)) ggX3_sail_X3_ship
set_option maxRecDepth 20000 in
theorem ggX3_sail_X3_sailor : GoodIn wsX3_sail wsX3_sailor := goodIn_r _ [23] (by decide +kernel) (by decide +kernel)
set_option maxRecDepth 20000 in
theorem gX3_sail_X3_sailor : GoodIn wsX3_sail (va_wsS RX3 59 yX3_sailor wsX3_sailor) := goodIn_app (goodIn_of _ (by decide +kernel)) ggX3_sail_X3_sailor
set_option maxRecDepth 20000 in
theorem ggX3_sail_X3_lights : GoodIn wsX3_sail wsX3_lights := goodIn_r _ [27, 2, 21, 22, 8, 23, 28, 29, 30, 31, 32, 33, 34, 35, 36, 37] (by decide +kernel) (by decide +kernel)
set_option maxRecDepth 20000 in
theorem gX3_sail_X3_lights : GoodIn wsX3_sail (wsV RX3 74 RX3 yX3_lights wsX3_lights) := goodIn_app (goodIn_of _ (by decide +kernel)) ggX3_sail_X3_lights
theorem dX3_sail_0 : decode cX3_sail 0 = .ok (.aload_n 0, 1) := by decide +kernel
theorem dX3_sail_1 : decode cX3_sail 1 = .ok (.iconst 0, 1) := by decide +kernel
theorem dX3_sail_2 : decode cX3_sail 2 = .ok (.putfield 29, 3) := by decide +kernel
theorem dX3_sail_5 : decode cX3_sail 5 = .ok (.aload_n 0, 1) := by decide +kernel
theorem dX3_sail_6 : decode cX3_sail 6 = .ok (.iload_n 1, 1) := by decide +kernel
theorem dX3_sail_7 : decode cX3_sail 7 = .ok (.invokevirtual 98, 3) := by decide +kernel
theorem dX3_sail_10 : decode cX3_sail 10 = .ok (.ifCond .ne 9, 3) := by decide +kernel
theorem dX3_sail_13 : decode cX3_sail 13 = .ok (.aload_n 0, 1) := by decide +kernel
theorem dX3_sail_14 : decode cX3_sail 14 = .ok (.iconst 1, 1) := by decide +kernel
theorem dX3_sail_15 : decode cX3_sail 15 = .ok (.invokevirtual 95, 3) := by decide +kernel
theorem dX3_sail_18 : decode cX3_sail 18 = .ok (.ireturn, 1) := by decide +kernel
theorem dX3_sail_19 : decode cX3_sail 19 = .ok (.aload_n 0, 1) := by decide +kernel
theorem dX3_sail_20 : decode cX3_sail 20 = .ok (.getfield 23, 3) := by decide +kernel
theorem dX3_sail_23 : decode cX3_sail 23 = .ok (.iload_n 1, 1) := by decide +kernel
theorem dX3_sail_24 : decode cX3_sail 24 = .ok (.iconst 0, 1) := by decide +kernel
theorem dX3_sail_25 : decode cX3_sail 25 = .ok (.invokestatic 46, 3) := by decide +kernel
theorem dX3_sail_28 : decode cX3_sail 28 = .ok (.iaload, 1) := by decide +kernel
theorem dX3_sail_29 : decode cX3_sail 29 = .ok (.ifCond .eq 9, 3) := by decide +kernel
theorem dX3_sail_32 : decode cX3_sail 32 = .ok (.aload_n 0, 1) := by decide +kernel
theorem dX3_sail_33 : decode cX3_sail 33 = .ok (.iconst 2, 1) := by decide +kernel
theorem dX3_sail_34 : decode cX3_sail 34 = .ok (.invokevirtual 95, 3) := by decide +kernel
theorem dX3_sail_37 : decode cX3_sail 37 = .ok (.ireturn, 1) := by decide +kernel
theorem dX3_sail_38 : decode cX3_sail 38 = .ok (.aload_n 0, 1) := by decide +kernel
theorem dX3_sail_39 : decode cX3_sail 39 = .ok (.getfield 23, 3) := by decide +kernel
theorem dX3_sail_42 : decode cX3_sail 42 = .ok (.iload_n 1, 1) := by decide +kernel
theorem dX3_sail_43 : decode cX3_sail 43 = .ok (.iconst 0, 1) := by decide +kernel
theorem dX3_sail_44 : decode cX3_sail 44 = .ok (.invokestatic 46, 3) := by decide +kernel
theorem dX3_sail_47 : decode cX3_sail 47 = .ok (.iconst 1, 1) := by decide +kernel
theorem dX3_sail_48 : decode cX3_sail 48 = .ok (.iastore, 1) := by decide +kernel
theorem dX3_sail_49 : decode cX3_sail 49 = .ok (.aload_n 0, 1) := by decide +kernel
theorem dX3_sail_50 : decode cX3_sail 50 = .ok (.getfield 23, 3) := by decide +kernel
theorem dX3_sail_53 : decode cX3_sail 53 = .ok (.iload_n 1, 1) := by decide +kernel
theorem dX3_sail_54 : decode cX3_sail 54 = .ok (.iconst 1, 1) := by decide +kernel
theorem dX3_sail_55 : decode cX3_sail 55 = .ok (.invokestatic 46, 3) := by decide +kernel
theorem dX3_sail_58 : decode cX3_sail 58 = .ok (.iconst 0, 1) := by decide +kernel
theorem dX3_sail_59 : decode cX3_sail 59 = .ok (.iastore, 1) := by decide +kernel
theorem dX3_sail_60 : decode cX3_sail 60 = .ok (.iconst 0, 1) := by decide +kernel
theorem dX3_sail_61 : decode cX3_sail 61 = .ok (.istore_n 2, 1) := by decide +kernel
theorem dX3_sail_62 : decode cX3_sail 62 = .ok (.iconst 0, 1) := by decide +kernel
theorem dX3_sail_63 : decode cX3_sail 63 = .ok (.istore_n 3, 1) := by decide +kernel
theorem dX3_sail_64 : decode cX3_sail 64 = .ok (.iload_n 3, 1) := by decide +kernel
theorem dX3_sail_65 : decode cX3_sail 65 = .ok (.aload_n 0, 1) := by decide +kernel
theorem dX3_sail_66 : decode cX3_sail 66 = .ok (.getfield 40, 3) := by decide +kernel
theorem dX3_sail_69 : decode cX3_sail 69 = .ok (.if_icmp .ge 41, 3) := by decide +kernel
theorem dX3_sail_72 : decode cX3_sail 72 = .ok (.aload_n 0, 1) := by decide +kernel
theorem dX3_sail_73 : decode cX3_sail 73 = .ok (.getfield 13, 3) := by decide +kernel
theorem dX3_sail_76 : decode cX3_sail 76 = .ok (.iload_n 3, 1) := by decide +kernel
theorem dX3_sail_77 : decode cX3_sail 77 = .ok (.iaload, 1) := by decide +kernel
theorem dX3_sail_78 : decode cX3_sail 78 = .ok (.iload_n 1, 1) := by decide +kernel
theorem dX3_sail_79 : decode cX3_sail 79 = .ok (.if_icmp .eq 6, 3) := by decide +kernel
theorem dX3_sail_82 : decode cX3_sail 82 = .ok (.goto 22, 3) := by decide +kernel
theorem dX3_sail_85 : decode cX3_sail 85 = .ok (.aload_n 0, 1) := by decide +kernel
theorem dX3_sail_86 : decode cX3_sail 86 = .ok (.getfield 23, 3) := by decide +kernel
theorem dX3_sail_89 : decode cX3_sail 89 = .ok (.iload_n 3, 1) := by decide +kernel
theorem dX3_sail_90 : decode cX3_sail 90 = .ok (.iconst 1, 1) := by decide +kernel
theorem dX3_sail_91 : decode cX3_sail 91 = .ok (.invokestatic 59, 3) := by decide +kernel
theorem dX3_sail_94 : decode cX3_sail 94 = .ok (.iconst 0, 1) := by decide +kernel
theorem dX3_sail_95 : decode cX3_sail 95 = .ok (.iastore, 1) := by decide +kernel
theorem dX3_sail_96 : decode cX3_sail 96 = .ok (.iload_n 2, 1) := by decide +kernel
theorem dX3_sail_97 : decode cX3_sail 97 = .ok (.aload_n 0, 1) := by decide +kernel
theorem dX3_sail_98 : decode cX3_sail 98 = .ok (.iload_n 3, 1) := by decide +kernel
theorem dX3_sail_99 : decode cX3_sail 99 = .ok (.invokevirtual 74, 3) := by decide +kernel
theorem dX3_sail_102 : decode cX3_sail 102 = .ok (.iadd, 1) := by decide +kernel
theorem dX3_sail_103 : decode cX3_sail 103 = .ok (.istore_n 2, 1) := by decide +kernel
theorem dX3_sail_104 : decode cX3_sail 104 = .ok (.iinc 3 1, 3) := by decide +kernel
theorem dX3_sail_107 : decode cX3_sail 107 = .ok (.goto (-43), 3) := by decide +kernel
theorem dX3_sail_110 : decode cX3_sail 110 = .ok (.iload_n 2, 1) := by decide +kernel
theorem dX3_sail_111 : decode cX3_sail 111 = .ok (.ireturn, 1) := by decide +kernel
set_option maxRecDepth 20000 in
theorem ggX3_comeHome_X3_isShip : GoodIn wsX3_comeHome wsX3_isShip := goodIn_r _ [12, 13, 14, 15, 11, 16, 36, 37, 38, 39, 40, 41, 42, 43, 44, 45] (by decide +kernel) (by decide +kernel)
set_option maxRecDepth 20000 in
theorem gX3_comeHome_X3_isShip : GoodIn wsX3_comeHome (wsV RX3 98 RX3 yX3_isShip wsX3_isShip) := goodIn_app (goodIn_of _ (by decide +kernel)) ggX3_comeHome_X3_isShip
set_option maxRecDepth 20000 in
theorem ggX3_comeHome_X3_no : GoodIn wsX3_comeHome wsX3_no := goodIn_r _ [20, 1, 36, 37, 38, 39, 40, 41, 42, 43, 44, 45] (by decide +kernel) (by decide +kernel)
set_option maxRecDepth 20000 in
theorem gX3_comeHome_X3_no : GoodIn wsX3_comeHome (wsV RX3 95 RX3 yX3_no wsX3_no) := goodIn_app (goodIn_of _ (by decide +kernel)) ggX3_comeHome_X3_no
set_option maxRecDepth 20000 in
theorem ggX3_comeHome_X3_ship : GoodIn wsX3_comeHome wsX3_ship := goodIn_r _ [23] (by decide +kernel) (by decide +kernel)
set_option maxRecDepth 20000 in
theorem gX3_comeHome_X3_ship : GoodIn wsX3_comeHome (va_wsS RX3 46 yX3_ship wsX3_ship) := goodIn_app (goodIn_of _ (by decide +kernel)) ggX3_comeHome_X3_ship
set_option maxRecDepth 20000 in
theorem ggX3_comeHome_X3_sighting : GoodIn wsX3_comeHome wsX3_sighting := goodIn_r _ [26] (by decide +kernel) (by decide +kernel)
set_option maxRecDepth 20000 in
theorem gX3_comeHome_X3_sighting : GoodIn wsX3_comeHome (va_wsS RX3 56 yX3_sighting wsX3_sighting) := goodIn_app (goodIn_of _ (by decide +kernel)) ggX3_comeHome_X3_sighting
set_option maxRecDepth 20000 in
theorem ggX3_comeHome_X3_end : GoodIn wsX3_comeHome wsX3_end := goodIn_r _ [30, 31, 32, 2, 3, 33, 34, 11, 35, 21, 22, 23, 24, 25, 26, 36, 37, 38, 39, 40, 41, 42, 43, 44, 45] (by decide +kernel) (by decide +kernel)
set_option maxRecDepth 20000 in
theorem gX3_comeHome_X3_end : GoodIn wsX3_comeHome (wsV RX3 91 RX3 yX3_end wsX3_end) := goodIn_app (goodIn_of _ (by decide +kernel)) ggX3_comeHome_X3_end
theorem dX3_comeHome_0 : decode cX3_comeHome 0 = .ok (.aload_n 0, 1) := by decide +kernel
theorem dX3_comeHome_1 : decode cX3_comeHome 1 = .ok (.iconst 0, 1) := by decide +kernel
theorem dX3_comeHome_2 : decode cX3_comeHome 2 = .ok (.putfield 29, 3) := by decide +kernel
theorem dX3_comeHome_5 : decode cX3_comeHome 5 = .ok (.aload_n 0, 1) := by decide +kernel
theorem dX3_comeHome_6 : decode cX3_comeHome 6 = .ok (.iload_n 1, 1) := by decide +kernel
theorem dX3_comeHome_7 : decode cX3_comeHome 7 = .ok (.invokevirtual 98, 3) := by decide +kernel
theorem dX3_comeHome_10 : decode cX3_comeHome 10 = .ok (.ifCond .ne 9, 3) := by decide +kernel
theorem dX3_comeHome_13 : decode cX3_comeHome 13 = .ok (.aload_n 0, 1) := by decide +kernel
theorem dX3_comeHome_14 : decode cX3_comeHome 14 = .ok (.iconst 1, 1) := by decide +kernel
theorem dX3_comeHome_15 : decode cX3_comeHome 15 = .ok (.invokevirtual 95, 3) := by decide +kernel
theorem dX3_comeHome_18 : decode cX3_comeHome 18 = .ok (.ireturn, 1) := by decide +kernel
theorem dX3_comeHome_19 : decode cX3_comeHome 19 = .ok (.aload_n 0, 1) := by decide +kernel
theorem dX3_comeHome_20 : decode cX3_comeHome 20 = .ok (.getfield 23, 3) := by decide +kernel
theorem dX3_comeHome_23 : decode cX3_comeHome 23 = .ok (.iload_n 1, 1) := by decide +kernel
theorem dX3_comeHome_24 : decode cX3_comeHome 24 = .ok (.iconst 0, 1) := by decide +kernel
theorem dX3_comeHome_25 : decode cX3_comeHome 25 = .ok (.invokestatic 46, 3) := by decide +kernel
theorem dX3_comeHome_28 : decode cX3_comeHome 28 = .ok (.iaload, 1) := by decide +kernel
theorem dX3_comeHome_29 : decode cX3_comeHome 29 = .ok (.ifCond .ne 9, 3) := by decide +kernel
theorem dX3_comeHome_32 : decode cX3_comeHome 32 = .ok (.aload_n 0, 1) := by decide +kernel
theorem dX3_comeHome_33 : decode cX3_comeHome 33 = .ok (.iconst 2, 1) := by decide +kernel
theorem dX3_comeHome_34 : decode cX3_comeHome 34 = .ok (.invokevirtual 95, 3) := by decide +kernel
theorem dX3_comeHome_37 : decode cX3_comeHome 37 = .ok (.ireturn, 1) := by decide +kernel
theorem dX3_comeHome_38 : decode cX3_comeHome 38 = .ok (.iconst 0, 1) := by decide +kernel
theorem dX3_comeHome_39 : decode cX3_comeHome 39 = .ok (.istore_n 2, 1) := by decide +kernel
theorem dX3_comeHome_40 : decode cX3_comeHome 40 = .ok (.iload_n 2, 1) := by decide +kernel
theorem dX3_comeHome_41 : decode cX3_comeHome 41 = .ok (.aload_n 0, 1) := by decide +kernel
theorem dX3_comeHome_42 : decode cX3_comeHome 42 = .ok (.getfield 43, 3) := by decide +kernel
theorem dX3_comeHome_45 : decode cX3_comeHome 45 = .ok (.if_icmp .ge 48, 3) := by decide +kernel
theorem dX3_comeHome_48 : decode cX3_comeHome 48 = .ok (.aload_n 0, 1) := by decide +kernel
theorem dX3_comeHome_49 : decode cX3_comeHome 49 = .ok (.getfield 23, 3) := by decide +kernel
theorem dX3_comeHome_52 : decode cX3_comeHome 52 = .ok (.iload_n 2, 1) := by decide +kernel
theorem dX3_comeHome_53 : decode cX3_comeHome 53 = .ok (.iload_n 1, 1) := by decide +kernel
theorem dX3_comeHome_54 : decode cX3_comeHome 54 = .ok (.invokestatic 56, 3) := by decide +kernel
theorem dX3_comeHome_57 : decode cX3_comeHome 57 = .ok (.iaload, 1) := by decide +kernel
theorem dX3_comeHome_58 : decode cX3_comeHome 58 = .ok (.iconst (-1), 1) := by decide +kernel
theorem dX3_comeHome_59 : decode cX3_comeHome 59 = .ok (.if_icmp .eq 28, 3) := by decide +kernel
theorem dX3_comeHome_62 : decode cX3_comeHome 62 = .ok (.aload_n 0, 1) := by decide +kernel
theorem dX3_comeHome_63 : decode cX3_comeHome 63 = .ok (.getfield 23, 3) := by decide +kernel
theorem dX3_comeHome_66 : decode cX3_comeHome 66 = .ok (.bipush 50, 2) := by decide +kernel
theorem dX3_comeHome_68 : decode cX3_comeHome 68 = .ok (.iload_n 2, 1) := by decide +kernel
theorem dX3_comeHome_69 : decode cX3_comeHome 69 = .ok (.iadd, 1) := by decide +kernel
theorem dX3_comeHome_70 : decode cX3_comeHome 70 = .ok (.bipush 9, 2) := by decide +kernel
theorem dX3_comeHome_72 : decode cX3_comeHome 72 = .ok (.aload_n 0, 1) := by decide +kernel
theorem dX3_comeHome_73 : decode cX3_comeHome 73 = .ok (.getfield 23, 3) := by decide +kernel
theorem dX3_comeHome_76 : decode cX3_comeHome 76 = .ok (.bipush 50, 2) := by decide +kernel
theorem dX3_comeHome_78 : decode cX3_comeHome 78 = .ok (.iload_n 2, 1) := by decide +kernel
theorem dX3_comeHome_79 : decode cX3_comeHome 79 = .ok (.iadd, 1) := by decide +kernel
theorem dX3_comeHome_80 : decode cX3_comeHome 80 = .ok (.iaload, 1) := by decide +kernel
theorem dX3_comeHome_81 : decode cX3_comeHome 81 = .ok (.iconst 1, 1) := by decide +kernel
theorem dX3_comeHome_82 : decode cX3_comeHome 82 = .ok (.iadd, 1) := by decide +kernel
theorem dX3_comeHome_83 : decode cX3_comeHome 83 = .ok (.invokestatic 101, 3) := by decide +kernel
theorem dX3_comeHome_86 : decode cX3_comeHome 86 = .ok (.iastore, 1) := by decide +kernel
theorem dX3_comeHome_87 : decode cX3_comeHome 87 = .ok (.iinc 2 1, 3) := by decide +kernel
theorem dX3_comeHome_90 : decode cX3_comeHome 90 = .ok (.goto (-50), 3) := by decide +kernel
theorem dX3_comeHome_93 : decode cX3_comeHome 93 = .ok (.aload_n 0, 1) := by decide +kernel
theorem dX3_comeHome_94 : decode cX3_comeHome 94 = .ok (.iload_n 1, 1) := by decide +kernel
theorem dX3_comeHome_95 : decode cX3_comeHome 95 = .ok (.invokevirtual 91, 3) := by decide +kernel
theorem dX3_comeHome_98 : decode cX3_comeHome 98 = .ok (.aload_n 0, 1) := by decide +kernel
theorem dX3_comeHome_99 : decode cX3_comeHome 99 = .ok (.getfield 23, 3) := by decide +kernel
theorem dX3_comeHome_102 : decode cX3_comeHome 102 = .ok (.iload_n 1, 1) := by decide +kernel
theorem dX3_comeHome_103 : decode cX3_comeHome 103 = .ok (.iconst 0, 1) := by decide +kernel
theorem dX3_comeHome_104 : decode cX3_comeHome 104 = .ok (.invokestatic 46, 3) := by decide +kernel
theorem dX3_comeHome_107 : decode cX3_comeHome 107 = .ok (.iconst 0, 1) := by decide +kernel
theorem dX3_comeHome_108 : decode cX3_comeHome 108 = .ok (.iastore, 1) := by decide +kernel
theorem dX3_comeHome_109 : decode cX3_comeHome 109 = .ok (.aload_n 0, 1) := by decide +kernel
theorem dX3_comeHome_110 : decode cX3_comeHome 110 = .ok (.getfield 23, 3) := by decide +kernel
theorem dX3_comeHome_113 : decode cX3_comeHome 113 = .ok (.iload_n 1, 1) := by decide +kernel
theorem dX3_comeHome_114 : decode cX3_comeHome 114 = .ok (.iconst 1, 1) := by decide +kernel
theorem dX3_comeHome_115 : decode cX3_comeHome 115 = .ok (.invokestatic 46, 3) := by decide +kernel
theorem dX3_comeHome_118 : decode cX3_comeHome 118 = .ok (.iaload, 1) := by decide +kernel
theorem dX3_comeHome_119 : decode cX3_comeHome 119 = .ok (.ireturn, 1) := by decide +kernel
set_option maxRecDepth 20000 in
theorem ggX3_canSight_X3_isWatcher : GoodIn wsX3_canSight wsX3_isWatcher := goodIn_r _ [7, 8, 9, 10, 6, 11, 27, 28, 29, 30, 31, 32, 33, 34, 35, 36] (by decide +kernel) (by decide +kernel)
set_option maxRecDepth 20000 in
theorem gX3_canSight_X3_isWatcher : GoodIn wsX3_canSight (wsV RX3 104 RX3 yX3_isWatcher wsX3_isWatcher) := goodIn_app (goodIn_of _ (by decide +kernel)) ggX3_canSight_X3_isWatcher
set_option maxRecDepth 20000 in
theorem ggX3_canSight_X3_isShip : GoodIn wsX3_canSight wsX3_isShip := goodIn_r _ [15, 16, 9, 10, 6, 11, 27, 28, 29, 30, 31, 32, 33, 34, 35, 36] (by decide +kernel) (by decide +kernel)
set_option maxRecDepth 20000 in
theorem gX3_canSight_X3_isShip : GoodIn wsX3_canSight (wsV RX3 98 RX3 yX3_isShip wsX3_isShip) := goodIn_app (goodIn_of _ (by decide +kernel)) ggX3_canSight_X3_isShip
set_option maxRecDepth 20000 in
theorem ggX3_canSight_X3_isOut : GoodIn wsX3_canSight wsX3_isOut := goodIn_r _ [20, 1, 21, 22, 6, 23, 27, 28, 29, 30, 31, 32, 33, 34, 35, 36] (by decide +kernel) (by decide +kernel)
set_option maxRecDepth 20000 in
theorem gX3_canSight_X3_isOut : GoodIn wsX3_canSight (wsV RX3 62 RX3 yX3_isOut wsX3_isOut) := goodIn_app (goodIn_of _ (by decide +kernel)) ggX3_canSight_X3_isOut
set_option maxRecDepth 20000 in
theorem ggX3_canSight_X3_sighting : GoodIn wsX3_canSight wsX3_sighting := goodIn_r _ [26] (by decide +kernel) (by decide +kernel)
set_option maxRecDepth 20000 in
theorem gX3_canSight_X3_sighting : GoodIn wsX3_canSight (va_wsS RX3 56 yX3_sighting wsX3_sighting) := goodIn_app (goodIn_of _ (by decide +kernel)) ggX3_canSight_X3_sighting
theorem dX3_canSight_0 : decode cX3_canSight 0 = .ok (.aload_n 0, 1) := by decide +kernel
theorem dX3_canSight_1 : decode cX3_canSight 1 = .ok (.aload_n 0, 1) := by decide +kernel
theorem dX3_canSight_2 : decode cX3_canSight 2 = .ok (.iload_n 1, 1) := by decide +kernel
theorem dX3_canSight_3 : decode cX3_canSight 3 = .ok (.invokevirtual 104, 3) := by decide +kernel
theorem dX3_canSight_6 : decode cX3_canSight 6 = .ok (.ifCond .eq 11, 3) := by decide +kernel
theorem dX3_canSight_9 : decode cX3_canSight 9 = .ok (.aload_n 0, 1) := by decide +kernel
theorem dX3_canSight_10 : decode cX3_canSight 10 = .ok (.iload_n 2, 1) := by decide +kernel
theorem dX3_canSight_11 : decode cX3_canSight 11 = .ok (.invokevirtual 98, 3) := by decide +kernel
theorem dX3_canSight_14 : decode cX3_canSight 14 = .ok (.ifCond .ne 7, 3) := by decide +kernel
theorem dX3_canSight_17 : decode cX3_canSight 17 = .ok (.iconst 1, 1) := by decide +kernel
theorem dX3_canSight_18 : decode cX3_canSight 18 = .ok (.goto 30, 3) := by decide +kernel
theorem dX3_canSight_21 : decode cX3_canSight 21 = .ok (.aload_n 0, 1) := by decide +kernel
theorem dX3_canSight_22 : decode cX3_canSight 22 = .ok (.iload_n 2, 1) := by decide +kernel
theorem dX3_canSight_23 : decode cX3_canSight 23 = .ok (.invokevirtual 62, 3) := by decide +kernel
theorem dX3_canSight_26 : decode cX3_canSight 26 = .ok (.ifCond .eq 17, 3) := by decide +kernel
theorem dX3_canSight_29 : decode cX3_canSight 29 = .ok (.aload_n 0, 1) := by decide +kernel
theorem dX3_canSight_30 : decode cX3_canSight 30 = .ok (.getfield 23, 3) := by decide +kernel
theorem dX3_canSight_33 : decode cX3_canSight 33 = .ok (.iload_n 1, 1) := by decide +kernel
theorem dX3_canSight_34 : decode cX3_canSight 34 = .ok (.iload_n 2, 1) := by decide +kernel
theorem dX3_canSight_35 : decode cX3_canSight 35 = .ok (.invokestatic 56, 3) := by decide +kernel
theorem dX3_canSight_38 : decode cX3_canSight 38 = .ok (.iaload, 1) := by decide +kernel
theorem dX3_canSight_39 : decode cX3_canSight 39 = .ok (.iconst (-1), 1) := by decide +kernel
theorem dX3_canSight_40 : decode cX3_canSight 40 = .ok (.if_icmp .eq 7, 3) := by decide +kernel
theorem dX3_canSight_43 : decode cX3_canSight 43 = .ok (.iconst 2, 1) := by decide +kernel
theorem dX3_canSight_44 : decode cX3_canSight 44 = .ok (.goto 4, 3) := by decide +kernel
theorem dX3_canSight_47 : decode cX3_canSight 47 = .ok (.iconst 0, 1) := by decide +kernel
theorem dX3_canSight_48 : decode cX3_canSight 48 = .ok (.putfield 29, 3) := by decide +kernel
theorem dX3_canSight_51 : decode cX3_canSight 51 = .ok (.aload_n 0, 1) := by decide +kernel
theorem dX3_canSight_52 : decode cX3_canSight 52 = .ok (.getfield 29, 3) := by decide +kernel
theorem dX3_canSight_55 : decode cX3_canSight 55 = .ok (.ifCond .ne 7, 3) := by decide +kernel
theorem dX3_canSight_58 : decode cX3_canSight 58 = .ok (.iconst 1, 1) := by decide +kernel
theorem dX3_canSight_59 : decode cX3_canSight 59 = .ok (.goto 4, 3) := by decide +kernel
theorem dX3_canSight_62 : decode cX3_canSight 62 = .ok (.iconst 0, 1) := by decide +kernel
theorem dX3_canSight_63 : decode cX3_canSight 63 = .ok (.ireturn, 1) := by decide +kernel
set_option maxRecDepth 20000 in
theorem ggX3_sightNow_X3_sighting : GoodIn wsX3_sightNow wsX3_sighting := goodIn_r _ [5] (by decide +kernel) (by decide +kernel)
set_option maxRecDepth 20000 in
theorem gX3_sightNow_X3_sighting : GoodIn wsX3_sightNow (va_wsS RX3 56 yX3_sighting wsX3_sighting) := goodIn_app (goodIn_of _ (by decide +kernel)) ggX3_sightNow_X3_sighting
set_option maxRecDepth 20000 in
theorem ggX3_sightNow_X3_trust : GoodIn wsX3_sightNow wsX3_trust := goodIn_r _ [9, 10, 1, 2, 3, 4, 5, 14, 15, 16, 17, 18, 19, 20, 21, 22, 23] (by decide +kernel) (by decide +kernel)
set_option maxRecDepth 20000 in
theorem gX3_sightNow_X3_trust : GoodIn wsX3_sightNow (wsV RX3 81 RX3 yX3_trust wsX3_trust) := goodIn_app (goodIn_of _ (by decide +kernel)) ggX3_sightNow_X3_trust
set_option maxRecDepth 20000 in
theorem ggX3_sightNow_X3_ship : GoodIn wsX3_sightNow wsX3_ship := goodIn_r _ [13] (by decide +kernel) (by decide +kernel)
set_option maxRecDepth 20000 in
theorem gX3_sightNow_X3_ship : GoodIn wsX3_sightNow (va_wsS RX3 46 yX3_ship wsX3_ship) := goodIn_app (goodIn_of _ (by decide +kernel)) ggX3_sightNow_X3_ship
theorem dX3_sightNow_0 : decode cX3_sightNow 0 = .ok (.aload_n 0, 1) := by decide +kernel
theorem dX3_sightNow_1 : decode cX3_sightNow 1 = .ok (.getfield 23, 3) := by decide +kernel
theorem dX3_sightNow_4 : decode cX3_sightNow 4 = .ok (.iload_n 1, 1) := by decide +kernel
theorem dX3_sightNow_5 : decode cX3_sightNow 5 = .ok (.iload_n 2, 1) := by decide +kernel
theorem dX3_sightNow_6 : decode cX3_sightNow 6 = .ok (.invokestatic 56, 3) := by decide +kernel
theorem dX3_sightNow_9 : decode cX3_sightNow 9 = .ok (.iconst 0, 1) := by decide +kernel
theorem dX3_sightNow_10 : decode cX3_sightNow 10 = .ok (.iastore, 1) := by decide +kernel
theorem dX3_sightNow_11 : decode cX3_sightNow 11 = .ok (.aload_n 0, 1) := by decide +kernel
theorem dX3_sightNow_12 : decode cX3_sightNow 12 = .ok (.iload_n 2, 1) := by decide +kernel
theorem dX3_sightNow_13 : decode cX3_sightNow 13 = .ok (.invokevirtual 81, 3) := by decide +kernel
theorem dX3_sightNow_16 : decode cX3_sightNow 16 = .ok (.bipush 6, 2) := by decide +kernel
theorem dX3_sightNow_18 : decode cX3_sightNow 18 = .ok (.if_icmp .lt 14, 3) := by decide +kernel
theorem dX3_sightNow_21 : decode cX3_sightNow 21 = .ok (.aload_n 0, 1) := by decide +kernel
theorem dX3_sightNow_22 : decode cX3_sightNow 22 = .ok (.getfield 23, 3) := by decide +kernel
theorem dX3_sightNow_25 : decode cX3_sightNow 25 = .ok (.iload_n 2, 1) := by decide +kernel
theorem dX3_sightNow_26 : decode cX3_sightNow 26 = .ok (.iconst 2, 1) := by decide +kernel
theorem dX3_sightNow_27 : decode cX3_sightNow 27 = .ok (.invokestatic 46, 3) := by decide +kernel
theorem dX3_sightNow_30 : decode cX3_sightNow 30 = .ok (.iconst 1, 1) := by decide +kernel
theorem dX3_sightNow_31 : decode cX3_sightNow 31 = .ok (.iastore, 1) := by decide +kernel
theorem dX3_sightNow_32 : decode cX3_sightNow 32 = .ok (.aload_n 0, 1) := by decide +kernel
theorem dX3_sightNow_33 : decode cX3_sightNow 33 = .ok (.getfield 23, 3) := by decide +kernel
theorem dX3_sightNow_36 : decode cX3_sightNow 36 = .ok (.iload_n 2, 1) := by decide +kernel
theorem dX3_sightNow_37 : decode cX3_sightNow 37 = .ok (.iconst 2, 1) := by decide +kernel
theorem dX3_sightNow_38 : decode cX3_sightNow 38 = .ok (.invokestatic 46, 3) := by decide +kernel
theorem dX3_sightNow_41 : decode cX3_sightNow 41 = .ok (.iaload, 1) := by decide +kernel
theorem dX3_sightNow_42 : decode cX3_sightNow 42 = .ok (.iconst 1, 1) := by decide +kernel
theorem dX3_sightNow_43 : decode cX3_sightNow 43 = .ok (.if_icmp .ne 7, 3) := by decide +kernel
theorem dX3_sightNow_46 : decode cX3_sightNow 46 = .ok (.iconst 1, 1) := by decide +kernel
theorem dX3_sightNow_47 : decode cX3_sightNow 47 = .ok (.goto 4, 3) := by decide +kernel
theorem dX3_sightNow_50 : decode cX3_sightNow 50 = .ok (.iconst 0, 1) := by decide +kernel
theorem dX3_sightNow_51 : decode cX3_sightNow 51 = .ok (.ireturn, 1) := by decide +kernel
set_option maxRecDepth 20000 in
theorem ggX3_sight_X3_canSight : GoodIn wsX3_sight wsX3_canSight := goodIn_r _ [5, 6, 7, 8, 9, 10, 4, 11, 12, 13, 14, 15, 16, 17, 18, 19, 20, 21, 22, 23, 24, 25, 26, 27, 28, 29, 30, 39, 40, 41, 42, 43, 44, 45, 46, 47, 48] (by decide +kernel) (by decide +kernel)
set_option maxRecDepth 20000 in
theorem gX3_sight_X3_canSight : GoodIn wsX3_sight (wsV RX3 107 RX3 yX3_canSight wsX3_canSight) := goodIn_app (goodIn_of _ (by decide +kernel)) ggX3_sight_X3_canSight
set_option maxRecDepth 20000 in
theorem ggX3_sight_X3_sightNow : GoodIn wsX3_sight wsX3_sightNow := goodIn_r _ [34, 6, 28, 29, 4, 30, 35, 36, 37, 38, 12, 25, 26, 27, 39, 40, 41, 42, 43, 44, 45, 46, 47, 48] (by decide +kernel) (by decide +kernel)
set_option maxRecDepth 20000 in
theorem gX3_sight_X3_sightNow : GoodIn wsX3_sight (wsV RX3 111 RX3 yX3_sightNow wsX3_sightNow) := goodIn_app (goodIn_of _ (by decide +kernel)) ggX3_sight_X3_sightNow
theorem dX3_sight_0 : decode cX3_sight 0 = .ok (.aload_n 0, 1) := by decide +kernel
theorem dX3_sight_1 : decode cX3_sight 1 = .ok (.iload_n 1, 1) := by decide +kernel
theorem dX3_sight_2 : decode cX3_sight 2 = .ok (.iload_n 2, 1) := by decide +kernel
theorem dX3_sight_3 : decode cX3_sight 3 = .ok (.invokevirtual 107, 3) := by decide +kernel
theorem dX3_sight_6 : decode cX3_sight 6 = .ok (.ifCond .eq 16, 3) := by decide +kernel
theorem dX3_sight_9 : decode cX3_sight 9 = .ok (.aload_n 0, 1) := by decide +kernel
theorem dX3_sight_10 : decode cX3_sight 10 = .ok (.iload_n 1, 1) := by decide +kernel
theorem dX3_sight_11 : decode cX3_sight 11 = .ok (.iload_n 2, 1) := by decide +kernel
theorem dX3_sight_12 : decode cX3_sight 12 = .ok (.invokevirtual 111, 3) := by decide +kernel
theorem dX3_sight_15 : decode cX3_sight 15 = .ok (.ifCond .eq 7, 3) := by decide +kernel
theorem dX3_sight_18 : decode cX3_sight 18 = .ok (.iconst 1, 1) := by decide +kernel
theorem dX3_sight_19 : decode cX3_sight 19 = .ok (.goto 4, 3) := by decide +kernel
theorem dX3_sight_22 : decode cX3_sight 22 = .ok (.iconst 0, 1) := by decide +kernel
theorem dX3_sight_23 : decode cX3_sight 23 = .ok (.ireturn, 1) := by decide +kernel
set_option maxRecDepth 20000 in
theorem ggX3_vote_X3_isSailor : GoodIn wsX3_vote wsX3_isSailor := goodIn_r _ [9, 10, 11, 12, 8, 13, 32, 33, 34, 35, 36, 37, 38, 39, 40, 41] (by decide +kernel) (by decide +kernel)
set_option maxRecDepth 20000 in
theorem gX3_vote_X3_isSailor : GoodIn wsX3_vote (wsV RX3 114 RX3 yX3_isSailor wsX3_isSailor) := goodIn_app (goodIn_of _ (by decide +kernel)) ggX3_vote_X3_isSailor
set_option maxRecDepth 20000 in
theorem ggX3_vote_X3_no : GoodIn wsX3_vote wsX3_no := goodIn_r _ [17, 1, 32, 33, 34, 35, 36, 37, 38, 39, 40, 41] (by decide +kernel) (by decide +kernel)
set_option maxRecDepth 20000 in
theorem gX3_vote_X3_no : GoodIn wsX3_vote (wsV RX3 95 RX3 yX3_no wsX3_no) := goodIn_app (goodIn_of _ (by decide +kernel)) ggX3_vote_X3_no
set_option maxRecDepth 20000 in
theorem ggX3_vote_X3_isOut : GoodIn wsX3_vote wsX3_isOut := goodIn_r _ [21, 4, 22, 23, 8, 24, 32, 33, 34, 35, 36, 37, 38, 39, 40, 41] (by decide +kernel) (by decide +kernel)
set_option maxRecDepth 20000 in
theorem gX3_vote_X3_isOut : GoodIn wsX3_vote (wsV RX3 62 RX3 yX3_isOut wsX3_isOut) := goodIn_app (goodIn_of _ (by decide +kernel)) ggX3_vote_X3_isOut
set_option maxRecDepth 20000 in
theorem ggX3_vote_X3_sailor : GoodIn wsX3_vote wsX3_sailor := goodIn_r _ [27] (by decide +kernel) (by decide +kernel)
set_option maxRecDepth 20000 in
theorem gX3_vote_X3_sailor : GoodIn wsX3_vote (va_wsS RX3 59 yX3_sailor wsX3_sailor) := goodIn_app (goodIn_of _ (by decide +kernel)) ggX3_vote_X3_sailor
set_option maxRecDepth 20000 in
theorem ggX3_vote_X3_voters : GoodIn wsX3_vote wsX3_voters := goodIn_r _ [31, 10, 3, 2, 4, 25, 26, 8, 27, 32, 33, 34, 35, 36, 37, 38, 39, 40, 41] (by decide +kernel) (by decide +kernel)
set_option maxRecDepth 20000 in
theorem gX3_vote_X3_voters : GoodIn wsX3_vote (wsV RX3 87 RX3 yX3_voters wsX3_voters) := goodIn_app (goodIn_of _ (by decide +kernel)) ggX3_vote_X3_voters
theorem dX3_vote_0 : decode cX3_vote 0 = .ok (.aload_n 0, 1) := by decide +kernel
theorem dX3_vote_1 : decode cX3_vote 1 = .ok (.iconst 0, 1) := by decide +kernel
theorem dX3_vote_2 : decode cX3_vote 2 = .ok (.putfield 29, 3) := by decide +kernel
theorem dX3_vote_5 : decode cX3_vote 5 = .ok (.aload_n 0, 1) := by decide +kernel
theorem dX3_vote_6 : decode cX3_vote 6 = .ok (.iload_n 1, 1) := by decide +kernel
theorem dX3_vote_7 : decode cX3_vote 7 = .ok (.invokevirtual 114, 3) := by decide +kernel
theorem dX3_vote_10 : decode cX3_vote 10 = .ok (.ifCond .ne 9, 3) := by decide +kernel
theorem dX3_vote_13 : decode cX3_vote 13 = .ok (.aload_n 0, 1) := by decide +kernel
theorem dX3_vote_14 : decode cX3_vote 14 = .ok (.iconst 1, 1) := by decide +kernel
theorem dX3_vote_15 : decode cX3_vote 15 = .ok (.invokevirtual 95, 3) := by decide +kernel
theorem dX3_vote_18 : decode cX3_vote 18 = .ok (.ireturn, 1) := by decide +kernel
theorem dX3_vote_19 : decode cX3_vote 19 = .ok (.aload_n 0, 1) := by decide +kernel
theorem dX3_vote_20 : decode cX3_vote 20 = .ok (.getfield 19, 3) := by decide +kernel
theorem dX3_vote_23 : decode cX3_vote 23 = .ok (.iload_n 1, 1) := by decide +kernel
theorem dX3_vote_24 : decode cX3_vote 24 = .ok (.baload, 1) := by decide +kernel
theorem dX3_vote_25 : decode cX3_vote 25 = .ok (.ifCond .eq 16, 3) := by decide +kernel
theorem dX3_vote_28 : decode cX3_vote 28 = .ok (.aload_n 0, 1) := by decide +kernel
theorem dX3_vote_29 : decode cX3_vote 29 = .ok (.aload_n 0, 1) := by decide +kernel
theorem dX3_vote_30 : decode cX3_vote 30 = .ok (.getfield 13, 3) := by decide +kernel
theorem dX3_vote_33 : decode cX3_vote 33 = .ok (.iload_n 1, 1) := by decide +kernel
theorem dX3_vote_34 : decode cX3_vote 34 = .ok (.iaload, 1) := by decide +kernel
theorem dX3_vote_35 : decode cX3_vote 35 = .ok (.invokevirtual 62, 3) := by decide +kernel
theorem dX3_vote_38 : decode cX3_vote 38 = .ok (.ifCond .ne 9, 3) := by decide +kernel
theorem dX3_vote_41 : decode cX3_vote 41 = .ok (.aload_n 0, 1) := by decide +kernel
theorem dX3_vote_42 : decode cX3_vote 42 = .ok (.iconst 2, 1) := by decide +kernel
theorem dX3_vote_43 : decode cX3_vote 43 = .ok (.invokevirtual 95, 3) := by decide +kernel
theorem dX3_vote_46 : decode cX3_vote 46 = .ok (.ireturn, 1) := by decide +kernel
theorem dX3_vote_47 : decode cX3_vote 47 = .ok (.aload_n 0, 1) := by decide +kernel
theorem dX3_vote_48 : decode cX3_vote 48 = .ok (.getfield 23, 3) := by decide +kernel
theorem dX3_vote_51 : decode cX3_vote 51 = .ok (.iload_n 1, 1) := by decide +kernel
theorem dX3_vote_52 : decode cX3_vote 52 = .ok (.iconst 1, 1) := by decide +kernel
theorem dX3_vote_53 : decode cX3_vote 53 = .ok (.invokestatic 59, 3) := by decide +kernel
theorem dX3_vote_56 : decode cX3_vote 56 = .ok (.iload_n 2, 1) := by decide +kernel
theorem dX3_vote_57 : decode cX3_vote 57 = .ok (.ifCond .eq 7, 3) := by decide +kernel
theorem dX3_vote_60 : decode cX3_vote 60 = .ok (.iconst 1, 1) := by decide +kernel
theorem dX3_vote_61 : decode cX3_vote 61 = .ok (.goto 4, 3) := by decide +kernel
theorem dX3_vote_64 : decode cX3_vote 64 = .ok (.iconst 0, 1) := by decide +kernel
theorem dX3_vote_65 : decode cX3_vote 65 = .ok (.iastore, 1) := by decide +kernel
theorem dX3_vote_66 : decode cX3_vote 66 = .ok (.aload_n 0, 1) := by decide +kernel
theorem dX3_vote_67 : decode cX3_vote 67 = .ok (.aload_n 0, 1) := by decide +kernel
theorem dX3_vote_68 : decode cX3_vote 68 = .ok (.getfield 13, 3) := by decide +kernel
theorem dX3_vote_71 : decode cX3_vote 71 = .ok (.iload_n 1, 1) := by decide +kernel
theorem dX3_vote_72 : decode cX3_vote 72 = .ok (.iaload, 1) := by decide +kernel
theorem dX3_vote_73 : decode cX3_vote 73 = .ok (.iconst 1, 1) := by decide +kernel
theorem dX3_vote_74 : decode cX3_vote 74 = .ok (.invokevirtual 87, 3) := by decide +kernel
theorem dX3_vote_77 : decode cX3_vote 77 = .ok (.ireturn, 1) := by decide +kernel
set_option maxRecDepth 20000 in
theorem ggX3_burnNights_X3_isIn : GoodIn wsX3_burnNights wsX3_isIn := goodIn_r _ [5] (by decide +kernel) (by decide +kernel)
set_option maxRecDepth 20000 in
theorem gX3_burnNights_X3_isIn : GoodIn wsX3_burnNights (va_wsS RX3 36 yX3_isIn wsX3_isIn) := goodIn_app (goodIn_of _ (by decide +kernel)) ggX3_burnNights_X3_isIn
set_option maxRecDepth 20000 in
theorem ggX3_burnNights_X3_no : GoodIn wsX3_burnNights wsX3_no := goodIn_r _ [9, 1, 62, 63, 64, 65, 66, 67, 68, 69, 70, 71] (by decide +kernel) (by decide +kernel)
set_option maxRecDepth 20000 in
theorem gX3_burnNights_X3_no : GoodIn wsX3_burnNights (wsV RX3 95 RX3 yX3_no wsX3_no) := goodIn_app (goodIn_of _ (by decide +kernel)) ggX3_burnNights_X3_no
set_option maxRecDepth 20000 in
theorem ggX3_burnNights_X3_nightOn : GoodIn wsX3_burnNights wsX3_nightOn := goodIn_r _ [13, 14, 15, 16, 17, 18, 19, 4, 20, 21, 22, 23, 24, 25, 26, 27, 28, 29, 30, 31, 32, 33, 34, 35, 36, 37, 38, 39, 40, 41, 42, 43, 44, 45, 46, 47, 48, 49, 50, 51, 52, 53, 54, 55, 56, 57, 58, 59, 60, 61, 62, 63, 64, 65, 66, 67, 68, 69, 70, 71] (by decide +kernel) (by decide +kernel)
set_option maxRecDepth 20000 in
theorem gX3_burnNights_X3_nightOn : GoodIn wsX3_burnNights (wsV RX3 117 RX3 yX3_nightOn wsX3_nightOn) := goodIn_app (goodIn_of _ (by decide +kernel)) ggX3_burnNights_X3_nightOn
theorem dX3_burnNights_0 : decode cX3_burnNights 0 = .ok (.aload_n 0, 1) := by decide +kernel
theorem dX3_burnNights_1 : decode cX3_burnNights 1 = .ok (.iconst 0, 1) := by decide +kernel
theorem dX3_burnNights_2 : decode cX3_burnNights 2 = .ok (.putfield 29, 3) := by decide +kernel
theorem dX3_burnNights_5 : decode cX3_burnNights 5 = .ok (.iload_n 1, 1) := by decide +kernel
theorem dX3_burnNights_6 : decode cX3_burnNights 6 = .ok (.iconst 1, 1) := by decide +kernel
theorem dX3_burnNights_7 : decode cX3_burnNights 7 = .ok (.bipush 60, 2) := by decide +kernel
theorem dX3_burnNights_9 : decode cX3_burnNights 9 = .ok (.invokestatic 36, 3) := by decide +kernel
theorem dX3_burnNights_12 : decode cX3_burnNights 12 = .ok (.ifCond .ne 9, 3) := by decide +kernel
theorem dX3_burnNights_15 : decode cX3_burnNights 15 = .ok (.aload_n 0, 1) := by decide +kernel
theorem dX3_burnNights_16 : decode cX3_burnNights 16 = .ok (.iconst 1, 1) := by decide +kernel
theorem dX3_burnNights_17 : decode cX3_burnNights 17 = .ok (.invokevirtual 95, 3) := by decide +kernel
theorem dX3_burnNights_20 : decode cX3_burnNights 20 = .ok (.ireturn, 1) := by decide +kernel
theorem dX3_burnNights_21 : decode cX3_burnNights 21 = .ok (.iconst 0, 1) := by decide +kernel
theorem dX3_burnNights_22 : decode cX3_burnNights 22 = .ok (.istore_n 2, 1) := by decide +kernel
theorem dX3_burnNights_23 : decode cX3_burnNights 23 = .ok (.iconst 0, 1) := by decide +kernel
theorem dX3_burnNights_24 : decode cX3_burnNights 24 = .ok (.istore_n 3, 1) := by decide +kernel
theorem dX3_burnNights_25 : decode cX3_burnNights 25 = .ok (.iload_n 3, 1) := by decide +kernel
theorem dX3_burnNights_26 : decode cX3_burnNights 26 = .ok (.iload_n 1, 1) := by decide +kernel
theorem dX3_burnNights_27 : decode cX3_burnNights 27 = .ok (.if_icmp .ge 16, 3) := by decide +kernel
theorem dX3_burnNights_30 : decode cX3_burnNights 30 = .ok (.iload_n 2, 1) := by decide +kernel
theorem dX3_burnNights_31 : decode cX3_burnNights 31 = .ok (.aload_n 0, 1) := by decide +kernel
theorem dX3_burnNights_32 : decode cX3_burnNights 32 = .ok (.invokevirtual 117, 3) := by decide +kernel
theorem dX3_burnNights_35 : decode cX3_burnNights 35 = .ok (.iadd, 1) := by decide +kernel
theorem dX3_burnNights_36 : decode cX3_burnNights 36 = .ok (.istore_n 2, 1) := by decide +kernel
theorem dX3_burnNights_37 : decode cX3_burnNights 37 = .ok (.iinc 3 1, 3) := by decide +kernel
theorem dX3_burnNights_40 : decode cX3_burnNights 40 = .ok (.goto (-15), 3) := by decide +kernel
theorem dX3_burnNights_43 : decode cX3_burnNights 43 = .ok (.iload_n 2, 1) := by decide +kernel
theorem dX3_burnNights_44 : decode cX3_burnNights 44 = .ok (.ireturn, 1) := by decide +kernel
theorem dX3_ok_0 : decode cX3_ok 0 = .ok (.aload_n 0, 1) := by decide +kernel
theorem dX3_ok_1 : decode cX3_ok 1 = .ok (.iconst 0, 1) := by decide +kernel
theorem dX3_ok_2 : decode cX3_ok 2 = .ok (.putfield 29, 3) := by decide +kernel
theorem dX3_ok_5 : decode cX3_ok 5 = .ok (.iload_n 1, 1) := by decide +kernel
theorem dX3_ok_6 : decode cX3_ok 6 = .ok (.ireturn, 1) := by decide +kernel
set_option maxRecDepth 20000 in
theorem ggX3_ofShip_X3_isShip : GoodIn wsX3_ofShip wsX3_isShip := goodIn_r _ [7, 8, 9, 10, 6, 11, 19, 20, 21, 22, 23, 24, 25, 26, 27, 28] (by decide +kernel) (by decide +kernel)
set_option maxRecDepth 20000 in
theorem gX3_ofShip_X3_isShip : GoodIn wsX3_ofShip (wsV RX3 98 RX3 yX3_isShip wsX3_isShip) := goodIn_app (goodIn_of _ (by decide +kernel)) ggX3_ofShip_X3_isShip
set_option maxRecDepth 20000 in
theorem ggX3_ofShip_X3_ship : GoodIn wsX3_ofShip wsX3_ship := goodIn_r _ [14] (by decide +kernel) (by decide +kernel)
set_option maxRecDepth 20000 in
theorem gX3_ofShip_X3_ship : GoodIn wsX3_ofShip (va_wsS RX3 46 yX3_ship wsX3_ship) := goodIn_app (goodIn_of _ (by decide +kernel)) ggX3_ofShip_X3_ship
set_option maxRecDepth 20000 in
theorem ggX3_ofShip_X3_no : GoodIn wsX3_ofShip wsX3_no := goodIn_r _ [18, 1, 19, 20, 21, 22, 23, 24, 25, 26, 27, 28] (by decide +kernel) (by decide +kernel)
set_option maxRecDepth 20000 in
theorem gX3_ofShip_X3_no : GoodIn wsX3_ofShip (wsV RX3 95 RX3 yX3_no wsX3_no) := goodIn_app (goodIn_of _ (by decide +kernel)) ggX3_ofShip_X3_no
theorem dX3_ofShip_0 : decode cX3_ofShip 0 = .ok (.aload_n 0, 1) := by decide +kernel
theorem dX3_ofShip_1 : decode cX3_ofShip 1 = .ok (.iconst 0, 1) := by decide +kernel
theorem dX3_ofShip_2 : decode cX3_ofShip 2 = .ok (.putfield 29, 3) := by decide +kernel
theorem dX3_ofShip_5 : decode cX3_ofShip 5 = .ok (.aload_n 0, 1) := by decide +kernel
theorem dX3_ofShip_6 : decode cX3_ofShip 6 = .ok (.iload_n 1, 1) := by decide +kernel
theorem dX3_ofShip_7 : decode cX3_ofShip 7 = .ok (.invokevirtual 98, 3) := by decide +kernel
theorem dX3_ofShip_10 : decode cX3_ofShip 10 = .ok (.ifCond .eq 16, 3) := by decide +kernel
theorem dX3_ofShip_13 : decode cX3_ofShip 13 = .ok (.aload_n 0, 1) := by decide +kernel
theorem dX3_ofShip_14 : decode cX3_ofShip 14 = .ok (.getfield 23, 3) := by decide +kernel
theorem dX3_ofShip_17 : decode cX3_ofShip 17 = .ok (.iload_n 1, 1) := by decide +kernel
theorem dX3_ofShip_18 : decode cX3_ofShip 18 = .ok (.iload_n 2, 1) := by decide +kernel
theorem dX3_ofShip_19 : decode cX3_ofShip 19 = .ok (.invokestatic 46, 3) := by decide +kernel
theorem dX3_ofShip_22 : decode cX3_ofShip 22 = .ok (.iaload, 1) := by decide +kernel
theorem dX3_ofShip_23 : decode cX3_ofShip 23 = .ok (.goto 8, 3) := by decide +kernel
theorem dX3_ofShip_26 : decode cX3_ofShip 26 = .ok (.aload_n 0, 1) := by decide +kernel
theorem dX3_ofShip_27 : decode cX3_ofShip 27 = .ok (.iconst 1, 1) := by decide +kernel
theorem dX3_ofShip_28 : decode cX3_ofShip 28 = .ok (.invokevirtual 95, 3) := by decide +kernel
theorem dX3_ofShip_31 : decode cX3_ofShip 31 = .ok (.ireturn, 1) := by decide +kernel
set_option maxRecDepth 20000 in
theorem ggX3_ships_X3_ok : GoodIn wsX3_ships wsX3_ok := goodIn_r _ [6, 7, 8, 9, 10, 11, 12, 13, 14, 15, 16, 17] (by decide +kernel) (by decide +kernel)
set_option maxRecDepth 20000 in
theorem gX3_ships_X3_ok : GoodIn wsX3_ships (wsV RX3 121 RX3 yX3_ok wsX3_ok) := goodIn_app (goodIn_of _ (by decide +kernel)) ggX3_ships_X3_ok
theorem dX3_ships_0 : decode cX3_ships 0 = .ok (.aload_n 0, 1) := by decide +kernel
theorem dX3_ships_1 : decode cX3_ships 1 = .ok (.aload_n 0, 1) := by decide +kernel
theorem dX3_ships_2 : decode cX3_ships 2 = .ok (.getfield 33, 3) := by decide +kernel
theorem dX3_ships_5 : decode cX3_ships 5 = .ok (.invokevirtual 121, 3) := by decide +kernel
theorem dX3_ships_8 : decode cX3_ships 8 = .ok (.ireturn, 1) := by decide +kernel
set_option maxRecDepth 20000 in
theorem ggX3_mastsOf_X3_isShip : GoodIn wsX3_mastsOf wsX3_isShip := goodIn_r _ [7, 8, 9, 10, 6, 11, 16, 17, 18, 19, 20, 21, 22, 23, 24, 25] (by decide +kernel) (by decide +kernel)
set_option maxRecDepth 20000 in
theorem gX3_mastsOf_X3_isShip : GoodIn wsX3_mastsOf (wsV RX3 98 RX3 yX3_isShip wsX3_isShip) := goodIn_app (goodIn_of _ (by decide +kernel)) ggX3_mastsOf_X3_isShip
set_option maxRecDepth 20000 in
theorem ggX3_mastsOf_X3_no : GoodIn wsX3_mastsOf wsX3_no := goodIn_r _ [15, 1, 16, 17, 18, 19, 20, 21, 22, 23, 24, 25] (by decide +kernel) (by decide +kernel)
set_option maxRecDepth 20000 in
theorem gX3_mastsOf_X3_no : GoodIn wsX3_mastsOf (wsV RX3 95 RX3 yX3_no wsX3_no) := goodIn_app (goodIn_of _ (by decide +kernel)) ggX3_mastsOf_X3_no
theorem dX3_mastsOf_0 : decode cX3_mastsOf 0 = .ok (.aload_n 0, 1) := by decide +kernel
theorem dX3_mastsOf_1 : decode cX3_mastsOf 1 = .ok (.iconst 0, 1) := by decide +kernel
theorem dX3_mastsOf_2 : decode cX3_mastsOf 2 = .ok (.putfield 29, 3) := by decide +kernel
theorem dX3_mastsOf_5 : decode cX3_mastsOf 5 = .ok (.aload_n 0, 1) := by decide +kernel
theorem dX3_mastsOf_6 : decode cX3_mastsOf 6 = .ok (.iload_n 1, 1) := by decide +kernel
theorem dX3_mastsOf_7 : decode cX3_mastsOf 7 = .ok (.invokevirtual 98, 3) := by decide +kernel
theorem dX3_mastsOf_10 : decode cX3_mastsOf 10 = .ok (.ifCond .eq 12, 3) := by decide +kernel
theorem dX3_mastsOf_13 : decode cX3_mastsOf 13 = .ok (.aload_n 0, 1) := by decide +kernel
theorem dX3_mastsOf_14 : decode cX3_mastsOf 14 = .ok (.getfield 9, 3) := by decide +kernel
theorem dX3_mastsOf_17 : decode cX3_mastsOf 17 = .ok (.iload_n 1, 1) := by decide +kernel
theorem dX3_mastsOf_18 : decode cX3_mastsOf 18 = .ok (.iaload, 1) := by decide +kernel
theorem dX3_mastsOf_19 : decode cX3_mastsOf 19 = .ok (.goto 8, 3) := by decide +kernel
theorem dX3_mastsOf_22 : decode cX3_mastsOf 22 = .ok (.aload_n 0, 1) := by decide +kernel
theorem dX3_mastsOf_23 : decode cX3_mastsOf 23 = .ok (.iconst 1, 1) := by decide +kernel
theorem dX3_mastsOf_24 : decode cX3_mastsOf 24 = .ok (.invokevirtual 95, 3) := by decide +kernel
theorem dX3_mastsOf_27 : decode cX3_mastsOf 27 = .ok (.ireturn, 1) := by decide +kernel
set_option maxRecDepth 20000 in
theorem ggX3_isAway_X3_ofShip : GoodIn wsX3_isAway wsX3_ofShip := goodIn_r _ [5, 6, 7, 8, 9, 10, 4, 11, 12, 13, 14, 15, 16, 17, 18, 19, 20, 21, 22, 23, 24, 25, 26, 27, 28, 29, 30, 31, 32] (by decide +kernel) (by decide +kernel)
set_option maxRecDepth 20000 in
theorem gX3_isAway_X3_ofShip : GoodIn wsX3_isAway (wsV RX3 124 RX3 yX3_ofShip wsX3_ofShip) := goodIn_app (goodIn_of _ (by decide +kernel)) ggX3_isAway_X3_ofShip
theorem dX3_isAway_0 : decode cX3_isAway 0 = .ok (.aload_n 0, 1) := by decide +kernel
theorem dX3_isAway_1 : decode cX3_isAway 1 = .ok (.iload_n 1, 1) := by decide +kernel
theorem dX3_isAway_2 : decode cX3_isAway 2 = .ok (.iconst 0, 1) := by decide +kernel
theorem dX3_isAway_3 : decode cX3_isAway 3 = .ok (.invokevirtual 124, 3) := by decide +kernel
theorem dX3_isAway_6 : decode cX3_isAway 6 = .ok (.ifCond .eq 7, 3) := by decide +kernel
theorem dX3_isAway_9 : decode cX3_isAway 9 = .ok (.iconst 1, 1) := by decide +kernel
theorem dX3_isAway_10 : decode cX3_isAway 10 = .ok (.goto 4, 3) := by decide +kernel
theorem dX3_isAway_13 : decode cX3_isAway 13 = .ok (.iconst 0, 1) := by decide +kernel
theorem dX3_isAway_14 : decode cX3_isAway 14 = .ok (.ireturn, 1) := by decide +kernel
set_option maxRecDepth 20000 in
theorem ggX3_isLost_X3_ofShip : GoodIn wsX3_isLost wsX3_ofShip := goodIn_r _ [5, 6, 7, 8, 9, 10, 4, 11, 12, 13, 14, 15, 16, 17, 18, 19, 20, 21, 22, 23, 24, 25, 26, 27, 28, 29, 30, 31, 32] (by decide +kernel) (by decide +kernel)
set_option maxRecDepth 20000 in
theorem gX3_isLost_X3_ofShip : GoodIn wsX3_isLost (wsV RX3 124 RX3 yX3_ofShip wsX3_ofShip) := goodIn_app (goodIn_of _ (by decide +kernel)) ggX3_isLost_X3_ofShip
theorem dX3_isLost_0 : decode cX3_isLost 0 = .ok (.aload_n 0, 1) := by decide +kernel
theorem dX3_isLost_1 : decode cX3_isLost 1 = .ok (.iload_n 1, 1) := by decide +kernel
theorem dX3_isLost_2 : decode cX3_isLost 2 = .ok (.iconst 0, 1) := by decide +kernel
theorem dX3_isLost_3 : decode cX3_isLost 3 = .ok (.invokevirtual 124, 3) := by decide +kernel
theorem dX3_isLost_6 : decode cX3_isLost 6 = .ok (.iconst 2, 1) := by decide +kernel
theorem dX3_isLost_7 : decode cX3_isLost 7 = .ok (.if_icmp .ne 7, 3) := by decide +kernel
theorem dX3_isLost_10 : decode cX3_isLost 10 = .ok (.iconst 1, 1) := by decide +kernel
theorem dX3_isLost_11 : decode cX3_isLost 11 = .ok (.goto 4, 3) := by decide +kernel
theorem dX3_isLost_14 : decode cX3_isLost 14 = .ok (.iconst 0, 1) := by decide +kernel
theorem dX3_isLost_15 : decode cX3_isLost 15 = .ok (.ireturn, 1) := by decide +kernel
set_option maxRecDepth 20000 in
theorem ggX3_nightsOut_X3_ofShip : GoodIn wsX3_nightsOut wsX3_ofShip := goodIn_r _ [5, 6, 7, 8, 9, 10, 4, 11, 12, 13, 14, 15, 16, 17, 18, 19, 20, 21, 22, 23, 24, 25, 26, 27, 28, 29, 30, 31, 32] (by decide +kernel) (by decide +kernel)
set_option maxRecDepth 20000 in
theorem gX3_nightsOut_X3_ofShip : GoodIn wsX3_nightsOut (wsV RX3 124 RX3 yX3_ofShip wsX3_ofShip) := goodIn_app (goodIn_of _ (by decide +kernel)) ggX3_nightsOut_X3_ofShip
theorem dX3_nightsOut_0 : decode cX3_nightsOut 0 = .ok (.aload_n 0, 1) := by decide +kernel
theorem dX3_nightsOut_1 : decode cX3_nightsOut 1 = .ok (.iload_n 1, 1) := by decide +kernel
theorem dX3_nightsOut_2 : decode cX3_nightsOut 2 = .ok (.iconst 1, 1) := by decide +kernel
theorem dX3_nightsOut_3 : decode cX3_nightsOut 3 = .ok (.invokevirtual 124, 3) := by decide +kernel
theorem dX3_nightsOut_6 : decode cX3_nightsOut 6 = .ok (.ireturn, 1) := by decide +kernel
set_option maxRecDepth 20000 in
theorem ggX3_isRung_X3_ofShip : GoodIn wsX3_isRung wsX3_ofShip := goodIn_r _ [5, 6, 7, 8, 9, 10, 4, 11, 12, 13, 14, 15, 16, 17, 18, 19, 20, 21, 22, 23, 24, 25, 26, 27, 28, 29, 30, 31, 32] (by decide +kernel) (by decide +kernel)
set_option maxRecDepth 20000 in
theorem gX3_isRung_X3_ofShip : GoodIn wsX3_isRung (wsV RX3 124 RX3 yX3_ofShip wsX3_ofShip) := goodIn_app (goodIn_of _ (by decide +kernel)) ggX3_isRung_X3_ofShip
theorem dX3_isRung_0 : decode cX3_isRung 0 = .ok (.aload_n 0, 1) := by decide +kernel
theorem dX3_isRung_1 : decode cX3_isRung 1 = .ok (.iload_n 1, 1) := by decide +kernel
theorem dX3_isRung_2 : decode cX3_isRung 2 = .ok (.iconst 2, 1) := by decide +kernel
theorem dX3_isRung_3 : decode cX3_isRung 3 = .ok (.invokevirtual 124, 3) := by decide +kernel
theorem dX3_isRung_6 : decode cX3_isRung 6 = .ok (.iconst 1, 1) := by decide +kernel
theorem dX3_isRung_7 : decode cX3_isRung 7 = .ok (.if_icmp .ne 7, 3) := by decide +kernel
theorem dX3_isRung_10 : decode cX3_isRung 10 = .ok (.iconst 1, 1) := by decide +kernel
theorem dX3_isRung_11 : decode cX3_isRung 11 = .ok (.goto 4, 3) := by decide +kernel
theorem dX3_isRung_14 : decode cX3_isRung 14 = .ok (.iconst 0, 1) := by decide +kernel
theorem dX3_isRung_15 : decode cX3_isRung 15 = .ok (.ireturn, 1) := by decide +kernel
set_option maxRecDepth 20000 in
theorem ggX3_trustIn_X3_isShip : GoodIn wsX3_trustIn wsX3_isShip := goodIn_r _ [6, 7, 8, 9, 5, 10, 24, 25, 26, 27, 28, 29, 30, 31, 32, 33] (by decide +kernel) (by decide +kernel)
set_option maxRecDepth 20000 in
theorem gX3_trustIn_X3_isShip : GoodIn wsX3_trustIn (wsV RX3 98 RX3 yX3_isShip wsX3_isShip) := goodIn_app (goodIn_of _ (by decide +kernel)) ggX3_trustIn_X3_isShip
set_option maxRecDepth 20000 in
theorem ggX3_trustIn_X3_trust : GoodIn wsX3_trustIn wsX3_trust := goodIn_r _ [14, 15, 16, 17, 18, 5, 19, 24, 25, 26, 27, 28, 29, 30, 31, 32, 33] (by decide +kernel) (by decide +kernel)
set_option maxRecDepth 20000 in
theorem gX3_trustIn_X3_trust : GoodIn wsX3_trustIn (wsV RX3 81 RX3 yX3_trust wsX3_trust) := goodIn_app (goodIn_of _ (by decide +kernel)) ggX3_trustIn_X3_trust
set_option maxRecDepth 20000 in
theorem ggX3_trustIn_X3_no : GoodIn wsX3_trustIn wsX3_no := goodIn_r _ [23, 1, 24, 25, 26, 27, 28, 29, 30, 31, 32, 33] (by decide +kernel) (by decide +kernel)
set_option maxRecDepth 20000 in
theorem gX3_trustIn_X3_no : GoodIn wsX3_trustIn (wsV RX3 95 RX3 yX3_no wsX3_no) := goodIn_app (goodIn_of _ (by decide +kernel)) ggX3_trustIn_X3_no
theorem dX3_trustIn_0 : decode cX3_trustIn 0 = .ok (.aload_n 0, 1) := by decide +kernel
theorem dX3_trustIn_1 : decode cX3_trustIn 1 = .ok (.iconst 0, 1) := by decide +kernel
theorem dX3_trustIn_2 : decode cX3_trustIn 2 = .ok (.putfield 29, 3) := by decide +kernel
theorem dX3_trustIn_5 : decode cX3_trustIn 5 = .ok (.aload_n 0, 1) := by decide +kernel
theorem dX3_trustIn_6 : decode cX3_trustIn 6 = .ok (.iload_n 1, 1) := by decide +kernel
theorem dX3_trustIn_7 : decode cX3_trustIn 7 = .ok (.invokevirtual 98, 3) := by decide +kernel
theorem dX3_trustIn_10 : decode cX3_trustIn 10 = .ok (.ifCond .eq 11, 3) := by decide +kernel
theorem dX3_trustIn_13 : decode cX3_trustIn 13 = .ok (.aload_n 0, 1) := by decide +kernel
theorem dX3_trustIn_14 : decode cX3_trustIn 14 = .ok (.iload_n 1, 1) := by decide +kernel
theorem dX3_trustIn_15 : decode cX3_trustIn 15 = .ok (.invokevirtual 81, 3) := by decide +kernel
theorem dX3_trustIn_18 : decode cX3_trustIn 18 = .ok (.goto 8, 3) := by decide +kernel
theorem dX3_trustIn_21 : decode cX3_trustIn 21 = .ok (.aload_n 0, 1) := by decide +kernel
theorem dX3_trustIn_22 : decode cX3_trustIn 22 = .ok (.iconst 1, 1) := by decide +kernel
theorem dX3_trustIn_23 : decode cX3_trustIn 23 = .ok (.invokevirtual 95, 3) := by decide +kernel
theorem dX3_trustIn_26 : decode cX3_trustIn 26 = .ok (.ireturn, 1) := by decide +kernel
set_option maxRecDepth 20000 in
theorem ggX3_voters__X3_isShip : GoodIn wsX3_voters_ wsX3_isShip := goodIn_r _ [6, 7, 8, 9, 5, 10, 26, 27, 28, 29, 30, 31, 32, 33, 34, 35] (by decide +kernel) (by decide +kernel)
set_option maxRecDepth 20000 in
theorem gX3_voters__X3_isShip : GoodIn wsX3_voters_ (wsV RX3 98 RX3 yX3_isShip wsX3_isShip) := goodIn_app (goodIn_of _ (by decide +kernel)) ggX3_voters__X3_isShip
set_option maxRecDepth 20000 in
theorem ggX3_voters__X3_voters : GoodIn wsX3_voters_ wsX3_voters := goodIn_r _ [14, 15, 16, 17, 18, 19, 20, 5, 21, 26, 27, 28, 29, 30, 31, 32, 33, 34, 35] (by decide +kernel) (by decide +kernel)
set_option maxRecDepth 20000 in
theorem gX3_voters__X3_voters : GoodIn wsX3_voters_ (wsV RX3 87 RX3 yX3_voters wsX3_voters) := goodIn_app (goodIn_of _ (by decide +kernel)) ggX3_voters__X3_voters
set_option maxRecDepth 20000 in
theorem ggX3_voters__X3_no : GoodIn wsX3_voters_ wsX3_no := goodIn_r _ [25, 1, 26, 27, 28, 29, 30, 31, 32, 33, 34, 35] (by decide +kernel) (by decide +kernel)
set_option maxRecDepth 20000 in
theorem gX3_voters__X3_no : GoodIn wsX3_voters_ (wsV RX3 95 RX3 yX3_no wsX3_no) := goodIn_app (goodIn_of _ (by decide +kernel)) ggX3_voters__X3_no
theorem dX3_voters__0 : decode cX3_voters_ 0 = .ok (.aload_n 0, 1) := by decide +kernel
theorem dX3_voters__1 : decode cX3_voters_ 1 = .ok (.iconst 0, 1) := by decide +kernel
theorem dX3_voters__2 : decode cX3_voters_ 2 = .ok (.putfield 29, 3) := by decide +kernel
theorem dX3_voters__5 : decode cX3_voters_ 5 = .ok (.aload_n 0, 1) := by decide +kernel
theorem dX3_voters__6 : decode cX3_voters_ 6 = .ok (.iload_n 1, 1) := by decide +kernel
theorem dX3_voters__7 : decode cX3_voters_ 7 = .ok (.invokevirtual 98, 3) := by decide +kernel
theorem dX3_voters__10 : decode cX3_voters_ 10 = .ok (.ifCond .eq 12, 3) := by decide +kernel
theorem dX3_voters__13 : decode cX3_voters_ 13 = .ok (.aload_n 0, 1) := by decide +kernel
theorem dX3_voters__14 : decode cX3_voters_ 14 = .ok (.iload_n 1, 1) := by decide +kernel
theorem dX3_voters__15 : decode cX3_voters_ 15 = .ok (.iconst 0, 1) := by decide +kernel
theorem dX3_voters__16 : decode cX3_voters_ 16 = .ok (.invokevirtual 87, 3) := by decide +kernel
theorem dX3_voters__19 : decode cX3_voters_ 19 = .ok (.goto 8, 3) := by decide +kernel
theorem dX3_voters__22 : decode cX3_voters_ 22 = .ok (.aload_n 0, 1) := by decide +kernel
theorem dX3_voters__23 : decode cX3_voters_ 23 = .ok (.iconst 1, 1) := by decide +kernel
theorem dX3_voters__24 : decode cX3_voters_ 24 = .ok (.invokevirtual 95, 3) := by decide +kernel
theorem dX3_voters__27 : decode cX3_voters_ 27 = .ok (.ireturn, 1) := by decide +kernel
set_option maxRecDepth 20000 in
theorem ggX3_votesForLost_X3_isShip : GoodIn wsX3_votesForLost wsX3_isShip := goodIn_r _ [6, 7, 8, 9, 5, 10, 26, 27, 28, 29, 30, 31, 32, 33, 34, 35] (by decide +kernel) (by decide +kernel)
set_option maxRecDepth 20000 in
theorem gX3_votesForLost_X3_isShip : GoodIn wsX3_votesForLost (wsV RX3 98 RX3 yX3_isShip wsX3_isShip) := goodIn_app (goodIn_of _ (by decide +kernel)) ggX3_votesForLost_X3_isShip
set_option maxRecDepth 20000 in
theorem ggX3_votesForLost_X3_voters : GoodIn wsX3_votesForLost wsX3_voters := goodIn_r _ [14, 15, 16, 17, 18, 19, 20, 5, 21, 26, 27, 28, 29, 30, 31, 32, 33, 34, 35] (by decide +kernel) (by decide +kernel)
set_option maxRecDepth 20000 in
theorem gX3_votesForLost_X3_voters : GoodIn wsX3_votesForLost (wsV RX3 87 RX3 yX3_voters wsX3_voters) := goodIn_app (goodIn_of _ (by decide +kernel)) ggX3_votesForLost_X3_voters
set_option maxRecDepth 20000 in
theorem ggX3_votesForLost_X3_no : GoodIn wsX3_votesForLost wsX3_no := goodIn_r _ [25, 1, 26, 27, 28, 29, 30, 31, 32, 33, 34, 35] (by decide +kernel) (by decide +kernel)
set_option maxRecDepth 20000 in
theorem gX3_votesForLost_X3_no : GoodIn wsX3_votesForLost (wsV RX3 95 RX3 yX3_no wsX3_no) := goodIn_app (goodIn_of _ (by decide +kernel)) ggX3_votesForLost_X3_no
theorem dX3_votesForLost_0 : decode cX3_votesForLost 0 = .ok (.aload_n 0, 1) := by decide +kernel
theorem dX3_votesForLost_1 : decode cX3_votesForLost 1 = .ok (.iconst 0, 1) := by decide +kernel
theorem dX3_votesForLost_2 : decode cX3_votesForLost 2 = .ok (.putfield 29, 3) := by decide +kernel
theorem dX3_votesForLost_5 : decode cX3_votesForLost 5 = .ok (.aload_n 0, 1) := by decide +kernel
theorem dX3_votesForLost_6 : decode cX3_votesForLost 6 = .ok (.iload_n 1, 1) := by decide +kernel
theorem dX3_votesForLost_7 : decode cX3_votesForLost 7 = .ok (.invokevirtual 98, 3) := by decide +kernel
theorem dX3_votesForLost_10 : decode cX3_votesForLost 10 = .ok (.ifCond .eq 12, 3) := by decide +kernel
theorem dX3_votesForLost_13 : decode cX3_votesForLost 13 = .ok (.aload_n 0, 1) := by decide +kernel
theorem dX3_votesForLost_14 : decode cX3_votesForLost 14 = .ok (.iload_n 1, 1) := by decide +kernel
theorem dX3_votesForLost_15 : decode cX3_votesForLost 15 = .ok (.iconst 1, 1) := by decide +kernel
theorem dX3_votesForLost_16 : decode cX3_votesForLost 16 = .ok (.invokevirtual 87, 3) := by decide +kernel
theorem dX3_votesForLost_19 : decode cX3_votesForLost 19 = .ok (.goto 8, 3) := by decide +kernel
theorem dX3_votesForLost_22 : decode cX3_votesForLost 22 = .ok (.aload_n 0, 1) := by decide +kernel
theorem dX3_votesForLost_23 : decode cX3_votesForLost 23 = .ok (.iconst 1, 1) := by decide +kernel
theorem dX3_votesForLost_24 : decode cX3_votesForLost 24 = .ok (.invokevirtual 95, 3) := by decide +kernel
theorem dX3_votesForLost_27 : decode cX3_votesForLost 27 = .ok (.ireturn, 1) := by decide +kernel
set_option maxRecDepth 20000 in
theorem ggX3_votesMissing_X3_isShip : GoodIn wsX3_votesMissing wsX3_isShip := goodIn_r _ [10, 11, 12, 13, 9, 14, 30, 31, 32, 33, 34, 35, 36, 37, 38, 39] (by decide +kernel) (by decide +kernel)
set_option maxRecDepth 20000 in
theorem gX3_votesMissing_X3_isShip : GoodIn wsX3_votesMissing (wsV RX3 98 RX3 yX3_isShip wsX3_isShip) := goodIn_app (goodIn_of _ (by decide +kernel)) ggX3_votesMissing_X3_isShip
set_option maxRecDepth 20000 in
theorem ggX3_votesMissing_X3_voters : GoodIn wsX3_votesMissing wsX3_voters := goodIn_r _ [18, 19, 20, 21, 22, 23, 24, 9, 25, 30, 31, 32, 33, 34, 35, 36, 37, 38, 39] (by decide +kernel) (by decide +kernel)
set_option maxRecDepth 20000 in
theorem gX3_votesMissing_X3_voters : GoodIn wsX3_votesMissing (wsV RX3 87 RX3 yX3_voters wsX3_voters) := goodIn_app (goodIn_of _ (by decide +kernel)) ggX3_votesMissing_X3_voters
set_option maxRecDepth 20000 in
theorem ggX3_votesMissing_X3_no : GoodIn wsX3_votesMissing wsX3_no := goodIn_r _ [29, 1, 30, 31, 32, 33, 34, 35, 36, 37, 38, 39] (by decide +kernel) (by decide +kernel)
set_option maxRecDepth 20000 in
theorem gX3_votesMissing_X3_no : GoodIn wsX3_votesMissing (wsV RX3 95 RX3 yX3_no wsX3_no) := goodIn_app (goodIn_of _ (by decide +kernel)) ggX3_votesMissing_X3_no
theorem dX3_votesMissing_0 : decode cX3_votesMissing 0 = .ok (.aload_n 0, 1) := by decide +kernel
theorem dX3_votesMissing_1 : decode cX3_votesMissing 1 = .ok (.iconst 0, 1) := by decide +kernel
theorem dX3_votesMissing_2 : decode cX3_votesMissing 2 = .ok (.putfield 29, 3) := by decide +kernel
theorem dX3_votesMissing_5 : decode cX3_votesMissing 5 = .ok (.aload_n 0, 1) := by decide +kernel
theorem dX3_votesMissing_6 : decode cX3_votesMissing 6 = .ok (.iload_n 1, 1) := by decide +kernel
theorem dX3_votesMissing_7 : decode cX3_votesMissing 7 = .ok (.invokevirtual 98, 3) := by decide +kernel
theorem dX3_votesMissing_10 : decode cX3_votesMissing 10 = .ok (.ifCond .eq 27, 3) := by decide +kernel
theorem dX3_votesMissing_13 : decode cX3_votesMissing 13 = .ok (.iconst 0, 1) := by decide +kernel
theorem dX3_votesMissing_14 : decode cX3_votesMissing 14 = .ok (.aload_n 0, 1) := by decide +kernel
theorem dX3_votesMissing_15 : decode cX3_votesMissing 15 = .ok (.iload_n 1, 1) := by decide +kernel
theorem dX3_votesMissing_16 : decode cX3_votesMissing 16 = .ok (.iconst 0, 1) := by decide +kernel
theorem dX3_votesMissing_17 : decode cX3_votesMissing 17 = .ok (.invokevirtual 87, 3) := by decide +kernel
theorem dX3_votesMissing_20 : decode cX3_votesMissing 20 = .ok (.iconst 2, 1) := by decide +kernel
theorem dX3_votesMissing_21 : decode cX3_votesMissing 21 = .ok (.idiv, 1) := by decide +kernel
theorem dX3_votesMissing_22 : decode cX3_votesMissing 22 = .ok (.iconst 1, 1) := by decide +kernel
theorem dX3_votesMissing_23 : decode cX3_votesMissing 23 = .ok (.iadd, 1) := by decide +kernel
theorem dX3_votesMissing_24 : decode cX3_votesMissing 24 = .ok (.aload_n 0, 1) := by decide +kernel
theorem dX3_votesMissing_25 : decode cX3_votesMissing 25 = .ok (.iload_n 1, 1) := by decide +kernel
theorem dX3_votesMissing_26 : decode cX3_votesMissing 26 = .ok (.iconst 1, 1) := by decide +kernel
theorem dX3_votesMissing_27 : decode cX3_votesMissing 27 = .ok (.invokevirtual 87, 3) := by decide +kernel
theorem dX3_votesMissing_30 : decode cX3_votesMissing 30 = .ok (.isub, 1) := by decide +kernel
theorem dX3_votesMissing_31 : decode cX3_votesMissing 31 = .ok (.invokestatic 69, 3) := by decide +kernel
theorem dX3_votesMissing_34 : decode cX3_votesMissing 34 = .ok (.goto 8, 3) := by decide +kernel
theorem dX3_votesMissing_37 : decode cX3_votesMissing 37 = .ok (.aload_n 0, 1) := by decide +kernel
theorem dX3_votesMissing_38 : decode cX3_votesMissing 38 = .ok (.iconst 1, 1) := by decide +kernel
theorem dX3_votesMissing_39 : decode cX3_votesMissing 39 = .ok (.invokevirtual 95, 3) := by decide +kernel
theorem dX3_votesMissing_42 : decode cX3_votesMissing 42 = .ok (.ireturn, 1) := by decide +kernel
set_option maxRecDepth 20000 in
theorem ggX3_sailors_X3_ok : GoodIn wsX3_sailors wsX3_ok := goodIn_r _ [6, 7, 8, 9, 10, 11, 12, 13, 14, 15, 16, 17] (by decide +kernel) (by decide +kernel)
set_option maxRecDepth 20000 in
theorem gX3_sailors_X3_ok : GoodIn wsX3_sailors (wsV RX3 121 RX3 yX3_ok wsX3_ok) := goodIn_app (goodIn_of _ (by decide +kernel)) ggX3_sailors_X3_ok
theorem dX3_sailors_0 : decode cX3_sailors 0 = .ok (.aload_n 0, 1) := by decide +kernel
theorem dX3_sailors_1 : decode cX3_sailors 1 = .ok (.aload_n 0, 1) := by decide +kernel
theorem dX3_sailors_2 : decode cX3_sailors 2 = .ok (.getfield 40, 3) := by decide +kernel
theorem dX3_sailors_5 : decode cX3_sailors 5 = .ok (.invokevirtual 121, 3) := by decide +kernel
theorem dX3_sailors_8 : decode cX3_sailors 8 = .ok (.ireturn, 1) := by decide +kernel
set_option maxRecDepth 20000 in
theorem ggX3_shipOf_X3_isSailor : GoodIn wsX3_shipOf wsX3_isSailor := goodIn_r _ [7, 8, 9, 10, 6, 11, 16, 17, 18, 19, 20, 21, 22, 23, 24, 25] (by decide +kernel) (by decide +kernel)
set_option maxRecDepth 20000 in
theorem gX3_shipOf_X3_isSailor : GoodIn wsX3_shipOf (wsV RX3 114 RX3 yX3_isSailor wsX3_isSailor) := goodIn_app (goodIn_of _ (by decide +kernel)) ggX3_shipOf_X3_isSailor
set_option maxRecDepth 20000 in
theorem ggX3_shipOf_X3_no : GoodIn wsX3_shipOf wsX3_no := goodIn_r _ [15, 1, 16, 17, 18, 19, 20, 21, 22, 23, 24, 25] (by decide +kernel) (by decide +kernel)
set_option maxRecDepth 20000 in
theorem gX3_shipOf_X3_no : GoodIn wsX3_shipOf (wsV RX3 95 RX3 yX3_no wsX3_no) := goodIn_app (goodIn_of _ (by decide +kernel)) ggX3_shipOf_X3_no
theorem dX3_shipOf_0 : decode cX3_shipOf 0 = .ok (.aload_n 0, 1) := by decide +kernel
theorem dX3_shipOf_1 : decode cX3_shipOf 1 = .ok (.iconst 0, 1) := by decide +kernel
theorem dX3_shipOf_2 : decode cX3_shipOf 2 = .ok (.putfield 29, 3) := by decide +kernel
theorem dX3_shipOf_5 : decode cX3_shipOf 5 = .ok (.aload_n 0, 1) := by decide +kernel
theorem dX3_shipOf_6 : decode cX3_shipOf 6 = .ok (.iload_n 1, 1) := by decide +kernel
theorem dX3_shipOf_7 : decode cX3_shipOf 7 = .ok (.invokevirtual 114, 3) := by decide +kernel
theorem dX3_shipOf_10 : decode cX3_shipOf 10 = .ok (.ifCond .eq 12, 3) := by decide +kernel
theorem dX3_shipOf_13 : decode cX3_shipOf 13 = .ok (.aload_n 0, 1) := by decide +kernel
theorem dX3_shipOf_14 : decode cX3_shipOf 14 = .ok (.getfield 13, 3) := by decide +kernel
theorem dX3_shipOf_17 : decode cX3_shipOf 17 = .ok (.iload_n 1, 1) := by decide +kernel
theorem dX3_shipOf_18 : decode cX3_shipOf 18 = .ok (.iaload, 1) := by decide +kernel
theorem dX3_shipOf_19 : decode cX3_shipOf 19 = .ok (.goto 8, 3) := by decide +kernel
theorem dX3_shipOf_22 : decode cX3_shipOf 22 = .ok (.aload_n 0, 1) := by decide +kernel
theorem dX3_shipOf_23 : decode cX3_shipOf 23 = .ok (.iconst 1, 1) := by decide +kernel
theorem dX3_shipOf_24 : decode cX3_shipOf 24 = .ok (.invokevirtual 95, 3) := by decide +kernel
theorem dX3_shipOf_27 : decode cX3_shipOf 27 = .ok (.ireturn, 1) := by decide +kernel
set_option maxRecDepth 20000 in
theorem ggX3_mastOf_X3_isSailor : GoodIn wsX3_mastOf wsX3_isSailor := goodIn_r _ [7, 8, 9, 10, 6, 11, 16, 17, 18, 19, 20, 21, 22, 23, 24, 25] (by decide +kernel) (by decide +kernel)
set_option maxRecDepth 20000 in
theorem gX3_mastOf_X3_isSailor : GoodIn wsX3_mastOf (wsV RX3 114 RX3 yX3_isSailor wsX3_isSailor) := goodIn_app (goodIn_of _ (by decide +kernel)) ggX3_mastOf_X3_isSailor
set_option maxRecDepth 20000 in
theorem ggX3_mastOf_X3_no : GoodIn wsX3_mastOf wsX3_no := goodIn_r _ [15, 1, 16, 17, 18, 19, 20, 21, 22, 23, 24, 25] (by decide +kernel) (by decide +kernel)
set_option maxRecDepth 20000 in
theorem gX3_mastOf_X3_no : GoodIn wsX3_mastOf (wsV RX3 95 RX3 yX3_no wsX3_no) := goodIn_app (goodIn_of _ (by decide +kernel)) ggX3_mastOf_X3_no
theorem dX3_mastOf_0 : decode cX3_mastOf 0 = .ok (.aload_n 0, 1) := by decide +kernel
theorem dX3_mastOf_1 : decode cX3_mastOf 1 = .ok (.iconst 0, 1) := by decide +kernel
theorem dX3_mastOf_2 : decode cX3_mastOf 2 = .ok (.putfield 29, 3) := by decide +kernel
theorem dX3_mastOf_5 : decode cX3_mastOf 5 = .ok (.aload_n 0, 1) := by decide +kernel
theorem dX3_mastOf_6 : decode cX3_mastOf 6 = .ok (.iload_n 1, 1) := by decide +kernel
theorem dX3_mastOf_7 : decode cX3_mastOf 7 = .ok (.invokevirtual 114, 3) := by decide +kernel
theorem dX3_mastOf_10 : decode cX3_mastOf 10 = .ok (.ifCond .eq 12, 3) := by decide +kernel
theorem dX3_mastOf_13 : decode cX3_mastOf 13 = .ok (.aload_n 0, 1) := by decide +kernel
theorem dX3_mastOf_14 : decode cX3_mastOf 14 = .ok (.getfield 16, 3) := by decide +kernel
theorem dX3_mastOf_17 : decode cX3_mastOf 17 = .ok (.iload_n 1, 1) := by decide +kernel
theorem dX3_mastOf_18 : decode cX3_mastOf 18 = .ok (.iaload, 1) := by decide +kernel
theorem dX3_mastOf_19 : decode cX3_mastOf 19 = .ok (.goto 8, 3) := by decide +kernel
theorem dX3_mastOf_22 : decode cX3_mastOf 22 = .ok (.aload_n 0, 1) := by decide +kernel
theorem dX3_mastOf_23 : decode cX3_mastOf 23 = .ok (.iconst 1, 1) := by decide +kernel
theorem dX3_mastOf_24 : decode cX3_mastOf 24 = .ok (.invokevirtual 95, 3) := by decide +kernel
theorem dX3_mastOf_27 : decode cX3_mastOf 27 = .ok (.ireturn, 1) := by decide +kernel
set_option maxRecDepth 20000 in
theorem ggX3_hasVoter_X3_isSailor : GoodIn wsX3_hasVoter wsX3_isSailor := goodIn_r _ [7, 8, 9, 10, 6, 11, 16, 17, 18, 19, 20, 21, 22, 23, 24, 25] (by decide +kernel) (by decide +kernel)
set_option maxRecDepth 20000 in
theorem gX3_hasVoter_X3_isSailor : GoodIn wsX3_hasVoter (wsV RX3 114 RX3 yX3_isSailor wsX3_isSailor) := goodIn_app (goodIn_of _ (by decide +kernel)) ggX3_hasVoter_X3_isSailor
set_option maxRecDepth 20000 in
theorem ggX3_hasVoter_X3_isNot : GoodIn wsX3_hasVoter wsX3_isNot := goodIn_r _ [15, 1, 16, 17, 18, 19, 20, 21, 22, 23, 24, 25] (by decide +kernel) (by decide +kernel)
set_option maxRecDepth 20000 in
theorem gX3_hasVoter_X3_isNot : GoodIn wsX3_hasVoter (wsV RX3 127 RX3 yX3_isNot wsX3_isNot) := goodIn_app (goodIn_of _ (by decide +kernel)) ggX3_hasVoter_X3_isNot
theorem dX3_hasVoter_0 : decode cX3_hasVoter 0 = .ok (.aload_n 0, 1) := by decide +kernel
theorem dX3_hasVoter_1 : decode cX3_hasVoter 1 = .ok (.iconst 0, 1) := by decide +kernel
theorem dX3_hasVoter_2 : decode cX3_hasVoter 2 = .ok (.putfield 29, 3) := by decide +kernel
theorem dX3_hasVoter_5 : decode cX3_hasVoter 5 = .ok (.aload_n 0, 1) := by decide +kernel
theorem dX3_hasVoter_6 : decode cX3_hasVoter 6 = .ok (.iload_n 1, 1) := by decide +kernel
theorem dX3_hasVoter_7 : decode cX3_hasVoter 7 = .ok (.invokevirtual 114, 3) := by decide +kernel
theorem dX3_hasVoter_10 : decode cX3_hasVoter 10 = .ok (.ifCond .eq 12, 3) := by decide +kernel
theorem dX3_hasVoter_13 : decode cX3_hasVoter 13 = .ok (.aload_n 0, 1) := by decide +kernel
theorem dX3_hasVoter_14 : decode cX3_hasVoter 14 = .ok (.getfield 19, 3) := by decide +kernel
theorem dX3_hasVoter_17 : decode cX3_hasVoter 17 = .ok (.iload_n 1, 1) := by decide +kernel
theorem dX3_hasVoter_18 : decode cX3_hasVoter 18 = .ok (.baload, 1) := by decide +kernel
theorem dX3_hasVoter_19 : decode cX3_hasVoter 19 = .ok (.goto 8, 3) := by decide +kernel
theorem dX3_hasVoter_22 : decode cX3_hasVoter 22 = .ok (.aload_n 0, 1) := by decide +kernel
theorem dX3_hasVoter_23 : decode cX3_hasVoter 23 = .ok (.iconst 1, 1) := by decide +kernel
theorem dX3_hasVoter_24 : decode cX3_hasVoter 24 = .ok (.invokevirtual 127, 3) := by decide +kernel
theorem dX3_hasVoter_27 : decode cX3_hasVoter 27 = .ok (.ireturn, 1) := by decide +kernel
set_option maxRecDepth 20000 in
theorem ggX3_isGivenUp_X3_isSailor : GoodIn wsX3_isGivenUp wsX3_isSailor := goodIn_r _ [7, 8, 9, 10, 6, 11, 19, 20, 21, 22, 23, 24, 25, 26, 27, 28] (by decide +kernel) (by decide +kernel)
set_option maxRecDepth 20000 in
theorem gX3_isGivenUp_X3_isSailor : GoodIn wsX3_isGivenUp (wsV RX3 114 RX3 yX3_isSailor wsX3_isSailor) := goodIn_app (goodIn_of _ (by decide +kernel)) ggX3_isGivenUp_X3_isSailor
set_option maxRecDepth 20000 in
theorem ggX3_isGivenUp_X3_sailor : GoodIn wsX3_isGivenUp wsX3_sailor := goodIn_r _ [14] (by decide +kernel) (by decide +kernel)
set_option maxRecDepth 20000 in
theorem gX3_isGivenUp_X3_sailor : GoodIn wsX3_isGivenUp (va_wsS RX3 59 yX3_sailor wsX3_sailor) := goodIn_app (goodIn_of _ (by decide +kernel)) ggX3_isGivenUp_X3_sailor
set_option maxRecDepth 20000 in
theorem ggX3_isGivenUp_X3_isNot : GoodIn wsX3_isGivenUp wsX3_isNot := goodIn_r _ [18, 1, 19, 20, 21, 22, 23, 24, 25, 26, 27, 28] (by decide +kernel) (by decide +kernel)
set_option maxRecDepth 20000 in
theorem gX3_isGivenUp_X3_isNot : GoodIn wsX3_isGivenUp (wsV RX3 127 RX3 yX3_isNot wsX3_isNot) := goodIn_app (goodIn_of _ (by decide +kernel)) ggX3_isGivenUp_X3_isNot
theorem dX3_isGivenUp_0 : decode cX3_isGivenUp 0 = .ok (.aload_n 0, 1) := by decide +kernel
theorem dX3_isGivenUp_1 : decode cX3_isGivenUp 1 = .ok (.iconst 0, 1) := by decide +kernel
theorem dX3_isGivenUp_2 : decode cX3_isGivenUp 2 = .ok (.putfield 29, 3) := by decide +kernel
theorem dX3_isGivenUp_5 : decode cX3_isGivenUp 5 = .ok (.aload_n 0, 1) := by decide +kernel
theorem dX3_isGivenUp_6 : decode cX3_isGivenUp 6 = .ok (.iload_n 1, 1) := by decide +kernel
theorem dX3_isGivenUp_7 : decode cX3_isGivenUp 7 = .ok (.invokevirtual 114, 3) := by decide +kernel
theorem dX3_isGivenUp_10 : decode cX3_isGivenUp 10 = .ok (.ifCond .eq 25, 3) := by decide +kernel
theorem dX3_isGivenUp_13 : decode cX3_isGivenUp 13 = .ok (.aload_n 0, 1) := by decide +kernel
theorem dX3_isGivenUp_14 : decode cX3_isGivenUp 14 = .ok (.getfield 23, 3) := by decide +kernel
theorem dX3_isGivenUp_17 : decode cX3_isGivenUp 17 = .ok (.iload_n 1, 1) := by decide +kernel
theorem dX3_isGivenUp_18 : decode cX3_isGivenUp 18 = .ok (.iconst 1, 1) := by decide +kernel
theorem dX3_isGivenUp_19 : decode cX3_isGivenUp 19 = .ok (.invokestatic 59, 3) := by decide +kernel
theorem dX3_isGivenUp_22 : decode cX3_isGivenUp 22 = .ok (.iaload, 1) := by decide +kernel
theorem dX3_isGivenUp_23 : decode cX3_isGivenUp 23 = .ok (.iconst 1, 1) := by decide +kernel
theorem dX3_isGivenUp_24 : decode cX3_isGivenUp 24 = .ok (.if_icmp .ne 7, 3) := by decide +kernel
theorem dX3_isGivenUp_27 : decode cX3_isGivenUp 27 = .ok (.iconst 1, 1) := by decide +kernel
theorem dX3_isGivenUp_28 : decode cX3_isGivenUp 28 = .ok (.goto 12, 3) := by decide +kernel
theorem dX3_isGivenUp_31 : decode cX3_isGivenUp 31 = .ok (.iconst 0, 1) := by decide +kernel
theorem dX3_isGivenUp_32 : decode cX3_isGivenUp 32 = .ok (.goto 8, 3) := by decide +kernel
theorem dX3_isGivenUp_35 : decode cX3_isGivenUp 35 = .ok (.aload_n 0, 1) := by decide +kernel
theorem dX3_isGivenUp_36 : decode cX3_isGivenUp 36 = .ok (.iconst 1, 1) := by decide +kernel
theorem dX3_isGivenUp_37 : decode cX3_isGivenUp 37 = .ok (.invokevirtual 127, 3) := by decide +kernel
theorem dX3_isGivenUp_40 : decode cX3_isGivenUp 40 = .ok (.ireturn, 1) := by decide +kernel
set_option maxRecDepth 20000 in
theorem ggX3_candleOf_X3_isSailor : GoodIn wsX3_candleOf wsX3_isSailor := goodIn_r _ [7, 8, 9, 10, 6, 11, 19, 20, 21, 22, 23, 24, 25, 26, 27, 28] (by decide +kernel) (by decide +kernel)
set_option maxRecDepth 20000 in
theorem gX3_candleOf_X3_isSailor : GoodIn wsX3_candleOf (wsV RX3 114 RX3 yX3_isSailor wsX3_isSailor) := goodIn_app (goodIn_of _ (by decide +kernel)) ggX3_candleOf_X3_isSailor
set_option maxRecDepth 20000 in
theorem ggX3_candleOf_X3_sailor : GoodIn wsX3_candleOf wsX3_sailor := goodIn_r _ [14] (by decide +kernel) (by decide +kernel)
set_option maxRecDepth 20000 in
theorem gX3_candleOf_X3_sailor : GoodIn wsX3_candleOf (va_wsS RX3 59 yX3_sailor wsX3_sailor) := goodIn_app (goodIn_of _ (by decide +kernel)) ggX3_candleOf_X3_sailor
set_option maxRecDepth 20000 in
theorem ggX3_candleOf_X3_no : GoodIn wsX3_candleOf wsX3_no := goodIn_r _ [18, 1, 19, 20, 21, 22, 23, 24, 25, 26, 27, 28] (by decide +kernel) (by decide +kernel)
set_option maxRecDepth 20000 in
theorem gX3_candleOf_X3_no : GoodIn wsX3_candleOf (wsV RX3 95 RX3 yX3_no wsX3_no) := goodIn_app (goodIn_of _ (by decide +kernel)) ggX3_candleOf_X3_no
theorem dX3_candleOf_0 : decode cX3_candleOf 0 = .ok (.aload_n 0, 1) := by decide +kernel
theorem dX3_candleOf_1 : decode cX3_candleOf 1 = .ok (.iconst 0, 1) := by decide +kernel
theorem dX3_candleOf_2 : decode cX3_candleOf 2 = .ok (.putfield 29, 3) := by decide +kernel
theorem dX3_candleOf_5 : decode cX3_candleOf 5 = .ok (.aload_n 0, 1) := by decide +kernel
theorem dX3_candleOf_6 : decode cX3_candleOf 6 = .ok (.iload_n 1, 1) := by decide +kernel
theorem dX3_candleOf_7 : decode cX3_candleOf 7 = .ok (.invokevirtual 114, 3) := by decide +kernel
theorem dX3_candleOf_10 : decode cX3_candleOf 10 = .ok (.ifCond .eq 16, 3) := by decide +kernel
theorem dX3_candleOf_13 : decode cX3_candleOf 13 = .ok (.aload_n 0, 1) := by decide +kernel
theorem dX3_candleOf_14 : decode cX3_candleOf 14 = .ok (.getfield 23, 3) := by decide +kernel
theorem dX3_candleOf_17 : decode cX3_candleOf 17 = .ok (.iload_n 1, 1) := by decide +kernel
theorem dX3_candleOf_18 : decode cX3_candleOf 18 = .ok (.iconst 0, 1) := by decide +kernel
theorem dX3_candleOf_19 : decode cX3_candleOf 19 = .ok (.invokestatic 59, 3) := by decide +kernel
theorem dX3_candleOf_22 : decode cX3_candleOf 22 = .ok (.iaload, 1) := by decide +kernel
theorem dX3_candleOf_23 : decode cX3_candleOf 23 = .ok (.goto 8, 3) := by decide +kernel
theorem dX3_candleOf_26 : decode cX3_candleOf 26 = .ok (.aload_n 0, 1) := by decide +kernel
theorem dX3_candleOf_27 : decode cX3_candleOf 27 = .ok (.iconst 1, 1) := by decide +kernel
theorem dX3_candleOf_28 : decode cX3_candleOf 28 = .ok (.invokevirtual 95, 3) := by decide +kernel
theorem dX3_candleOf_31 : decode cX3_candleOf 31 = .ok (.ireturn, 1) := by decide +kernel
set_option maxRecDepth 20000 in
theorem ggX3_isDark_X3_isSailor : GoodIn wsX3_isDark wsX3_isSailor := goodIn_r _ [6, 7, 8, 9, 5, 10, 31, 32, 33, 34, 35, 36, 37, 38, 39, 40] (by decide +kernel) (by decide +kernel)
set_option maxRecDepth 20000 in
theorem gX3_isDark_X3_isSailor : GoodIn wsX3_isDark (wsV RX3 114 RX3 yX3_isSailor wsX3_isSailor) := goodIn_app (goodIn_of _ (by decide +kernel)) ggX3_isDark_X3_isSailor
set_option maxRecDepth 20000 in
theorem ggX3_isDark_X3_dark : GoodIn wsX3_isDark wsX3_dark := goodIn_r _ [14, 15, 16, 17, 18, 19, 5, 20, 21, 22, 23, 24, 25, 26, 31, 32, 33, 34, 35, 36, 37, 38, 39, 40] (by decide +kernel) (by decide +kernel)
set_option maxRecDepth 20000 in
theorem gX3_isDark_X3_dark : GoodIn wsX3_isDark (wsV RX3 66 RX3 yX3_dark wsX3_dark) := goodIn_app (goodIn_of _ (by decide +kernel)) ggX3_isDark_X3_dark
set_option maxRecDepth 20000 in
theorem ggX3_isDark_X3_isNot : GoodIn wsX3_isDark wsX3_isNot := goodIn_r _ [30, 1, 31, 32, 33, 34, 35, 36, 37, 38, 39, 40] (by decide +kernel) (by decide +kernel)
set_option maxRecDepth 20000 in
theorem gX3_isDark_X3_isNot : GoodIn wsX3_isDark (wsV RX3 127 RX3 yX3_isNot wsX3_isNot) := goodIn_app (goodIn_of _ (by decide +kernel)) ggX3_isDark_X3_isNot
theorem dX3_isDark_0 : decode cX3_isDark 0 = .ok (.aload_n 0, 1) := by decide +kernel
theorem dX3_isDark_1 : decode cX3_isDark 1 = .ok (.iconst 0, 1) := by decide +kernel
theorem dX3_isDark_2 : decode cX3_isDark 2 = .ok (.putfield 29, 3) := by decide +kernel
theorem dX3_isDark_5 : decode cX3_isDark 5 = .ok (.aload_n 0, 1) := by decide +kernel
theorem dX3_isDark_6 : decode cX3_isDark 6 = .ok (.iload_n 1, 1) := by decide +kernel
theorem dX3_isDark_7 : decode cX3_isDark 7 = .ok (.invokevirtual 114, 3) := by decide +kernel
theorem dX3_isDark_10 : decode cX3_isDark 10 = .ok (.ifCond .eq 11, 3) := by decide +kernel
theorem dX3_isDark_13 : decode cX3_isDark 13 = .ok (.aload_n 0, 1) := by decide +kernel
theorem dX3_isDark_14 : decode cX3_isDark 14 = .ok (.iload_n 1, 1) := by decide +kernel
theorem dX3_isDark_15 : decode cX3_isDark 15 = .ok (.invokevirtual 66, 3) := by decide +kernel
theorem dX3_isDark_18 : decode cX3_isDark 18 = .ok (.goto 8, 3) := by decide +kernel
theorem dX3_isDark_21 : decode cX3_isDark 21 = .ok (.aload_n 0, 1) := by decide +kernel
theorem dX3_isDark_22 : decode cX3_isDark 22 = .ok (.iconst 1, 1) := by decide +kernel
theorem dX3_isDark_23 : decode cX3_isDark 23 = .ok (.invokevirtual 127, 3) := by decide +kernel
theorem dX3_isDark_26 : decode cX3_isDark 26 = .ok (.ireturn, 1) := by decide +kernel
set_option maxRecDepth 20000 in
theorem ggX3_watchers_X3_ok : GoodIn wsX3_watchers wsX3_ok := goodIn_r _ [6, 7, 8, 9, 10, 11, 12, 13, 14, 15, 16, 17] (by decide +kernel) (by decide +kernel)
set_option maxRecDepth 20000 in
theorem gX3_watchers_X3_ok : GoodIn wsX3_watchers (wsV RX3 121 RX3 yX3_ok wsX3_ok) := goodIn_app (goodIn_of _ (by decide +kernel)) ggX3_watchers_X3_ok
theorem dX3_watchers_0 : decode cX3_watchers 0 = .ok (.aload_n 0, 1) := by decide +kernel
theorem dX3_watchers_1 : decode cX3_watchers 1 = .ok (.aload_n 0, 1) := by decide +kernel
theorem dX3_watchers_2 : decode cX3_watchers 2 = .ok (.getfield 43, 3) := by decide +kernel
theorem dX3_watchers_5 : decode cX3_watchers 5 = .ok (.invokevirtual 121, 3) := by decide +kernel
theorem dX3_watchers_8 : decode cX3_watchers 8 = .ok (.ireturn, 1) := by decide +kernel
set_option maxRecDepth 20000 in
theorem ggX3_trustOf_X3_isWatcher : GoodIn wsX3_trustOf wsX3_isWatcher := goodIn_r _ [7, 8, 9, 10, 6, 11, 16, 17, 18, 19, 20, 21, 22, 23, 24, 25] (by decide +kernel) (by decide +kernel)
set_option maxRecDepth 20000 in
theorem gX3_trustOf_X3_isWatcher : GoodIn wsX3_trustOf (wsV RX3 104 RX3 yX3_isWatcher wsX3_isWatcher) := goodIn_app (goodIn_of _ (by decide +kernel)) ggX3_trustOf_X3_isWatcher
set_option maxRecDepth 20000 in
theorem ggX3_trustOf_X3_no : GoodIn wsX3_trustOf wsX3_no := goodIn_r _ [15, 1, 16, 17, 18, 19, 20, 21, 22, 23, 24, 25] (by decide +kernel) (by decide +kernel)
set_option maxRecDepth 20000 in
theorem gX3_trustOf_X3_no : GoodIn wsX3_trustOf (wsV RX3 95 RX3 yX3_no wsX3_no) := goodIn_app (goodIn_of _ (by decide +kernel)) ggX3_trustOf_X3_no
theorem dX3_trustOf_0 : decode cX3_trustOf 0 = .ok (.aload_n 0, 1) := by decide +kernel
theorem dX3_trustOf_1 : decode cX3_trustOf 1 = .ok (.iconst 0, 1) := by decide +kernel
theorem dX3_trustOf_2 : decode cX3_trustOf 2 = .ok (.putfield 29, 3) := by decide +kernel
theorem dX3_trustOf_5 : decode cX3_trustOf 5 = .ok (.aload_n 0, 1) := by decide +kernel
theorem dX3_trustOf_6 : decode cX3_trustOf 6 = .ok (.iload_n 1, 1) := by decide +kernel
theorem dX3_trustOf_7 : decode cX3_trustOf 7 = .ok (.invokevirtual 104, 3) := by decide +kernel
theorem dX3_trustOf_10 : decode cX3_trustOf 10 = .ok (.ifCond .eq 15, 3) := by decide +kernel
theorem dX3_trustOf_13 : decode cX3_trustOf 13 = .ok (.aload_n 0, 1) := by decide +kernel
theorem dX3_trustOf_14 : decode cX3_trustOf 14 = .ok (.getfield 23, 3) := by decide +kernel
theorem dX3_trustOf_17 : decode cX3_trustOf 17 = .ok (.bipush 50, 2) := by decide +kernel
theorem dX3_trustOf_19 : decode cX3_trustOf 19 = .ok (.iload_n 1, 1) := by decide +kernel
theorem dX3_trustOf_20 : decode cX3_trustOf 20 = .ok (.iadd, 1) := by decide +kernel
theorem dX3_trustOf_21 : decode cX3_trustOf 21 = .ok (.iaload, 1) := by decide +kernel
theorem dX3_trustOf_22 : decode cX3_trustOf 22 = .ok (.goto 8, 3) := by decide +kernel
theorem dX3_trustOf_25 : decode cX3_trustOf 25 = .ok (.aload_n 0, 1) := by decide +kernel
theorem dX3_trustOf_26 : decode cX3_trustOf 26 = .ok (.iconst 1, 1) := by decide +kernel
theorem dX3_trustOf_27 : decode cX3_trustOf 27 = .ok (.invokevirtual 95, 3) := by decide +kernel
theorem dX3_trustOf_30 : decode cX3_trustOf 30 = .ok (.ireturn, 1) := by decide +kernel
theorem dX3_allSightings_0 : decode cX3_allSightings 0 = .ok (.iconst 0, 1) := by decide +kernel
theorem dX3_allSightings_1 : decode cX3_allSightings 1 = .ok (.istore_n 1, 1) := by decide +kernel
theorem dX3_allSightings_2 : decode cX3_allSightings 2 = .ok (.bipush 54, 2) := by decide +kernel
theorem dX3_allSightings_4 : decode cX3_allSightings 4 = .ok (.istore_n 2, 1) := by decide +kernel
theorem dX3_allSightings_5 : decode cX3_allSightings 5 = .ok (.iload_n 2, 1) := by decide +kernel
theorem dX3_allSightings_6 : decode cX3_allSightings 6 = .ok (.bipush 74, 2) := by decide +kernel
theorem dX3_allSightings_8 : decode cX3_allSightings 8 = .ok (.if_icmp .ge 27, 3) := by decide +kernel
theorem dX3_allSightings_11 : decode cX3_allSightings 11 = .ok (.iload_n 1, 1) := by decide +kernel
theorem dX3_allSightings_12 : decode cX3_allSightings 12 = .ok (.aload_n 0, 1) := by decide +kernel
theorem dX3_allSightings_13 : decode cX3_allSightings 13 = .ok (.getfield 23, 3) := by decide +kernel
theorem dX3_allSightings_16 : decode cX3_allSightings 16 = .ok (.iload_n 2, 1) := by decide +kernel
theorem dX3_allSightings_17 : decode cX3_allSightings 17 = .ok (.iaload, 1) := by decide +kernel
theorem dX3_allSightings_18 : decode cX3_allSightings 18 = .ok (.iconst (-1), 1) := by decide +kernel
theorem dX3_allSightings_19 : decode cX3_allSightings 19 = .ok (.if_icmp .eq 7, 3) := by decide +kernel
theorem dX3_allSightings_22 : decode cX3_allSightings 22 = .ok (.iconst 1, 1) := by decide +kernel
theorem dX3_allSightings_23 : decode cX3_allSightings 23 = .ok (.goto 4, 3) := by decide +kernel
theorem dX3_allSightings_26 : decode cX3_allSightings 26 = .ok (.iconst 0, 1) := by decide +kernel
theorem dX3_allSightings_27 : decode cX3_allSightings 27 = .ok (.iadd, 1) := by decide +kernel
theorem dX3_allSightings_28 : decode cX3_allSightings 28 = .ok (.istore_n 1, 1) := by decide +kernel
theorem dX3_allSightings_29 : decode cX3_allSightings 29 = .ok (.iinc 2 1, 3) := by decide +kernel
theorem dX3_allSightings_32 : decode cX3_allSightings 32 = .ok (.goto (-27), 3) := by decide +kernel
theorem dX3_allSightings_35 : decode cX3_allSightings 35 = .ok (.iload_n 1, 1) := by decide +kernel
theorem dX3_allSightings_36 : decode cX3_allSightings 36 = .ok (.ireturn, 1) := by decide +kernel
set_option maxRecDepth 20000 in
theorem ggX3_sightings_X3_allSightings : GoodIn wsX3_sightings wsX3_allSightings := goodIn_r _ [5, 6, 12, 13, 14, 15, 16, 17, 18, 19, 20, 21] (by decide +kernel) (by decide +kernel)
set_option maxRecDepth 20000 in
theorem gX3_sightings_X3_allSightings : GoodIn wsX3_sightings (wsV RX3 130 RX3 yX3_allSightings wsX3_allSightings) := goodIn_app (goodIn_of _ (by decide +kernel)) ggX3_sightings_X3_allSightings
set_option maxRecDepth 20000 in
theorem ggX3_sightings_X3_ok : GoodIn wsX3_sightings wsX3_ok := goodIn_r _ [10, 11, 12, 13, 14, 15, 16, 17, 18, 19, 20, 21] (by decide +kernel) (by decide +kernel)
set_option maxRecDepth 20000 in
theorem gX3_sightings_X3_ok : GoodIn wsX3_sightings (wsV RX3 121 RX3 yX3_ok wsX3_ok) := goodIn_app (goodIn_of _ (by decide +kernel)) ggX3_sightings_X3_ok
theorem dX3_sightings_0 : decode cX3_sightings 0 = .ok (.aload_n 0, 1) := by decide +kernel
theorem dX3_sightings_1 : decode cX3_sightings 1 = .ok (.aload_n 0, 1) := by decide +kernel
theorem dX3_sightings_2 : decode cX3_sightings 2 = .ok (.invokevirtual 130, 3) := by decide +kernel
theorem dX3_sightings_5 : decode cX3_sightings 5 = .ok (.invokevirtual 121, 3) := by decide +kernel
theorem dX3_sightings_8 : decode cX3_sightings 8 = .ok (.ireturn, 1) := by decide +kernel
set_option maxRecDepth 20000 in
theorem ggX3_night_X3_ok : GoodIn wsX3_night wsX3_ok := goodIn_r _ [6, 7, 8, 9, 10, 11, 12, 13, 14, 15, 16, 17] (by decide +kernel) (by decide +kernel)
set_option maxRecDepth 20000 in
theorem gX3_night_X3_ok : GoodIn wsX3_night (wsV RX3 121 RX3 yX3_ok wsX3_ok) := goodIn_app (goodIn_of _ (by decide +kernel)) ggX3_night_X3_ok
theorem dX3_night_0 : decode cX3_night 0 = .ok (.aload_n 0, 1) := by decide +kernel
theorem dX3_night_1 : decode cX3_night 1 = .ok (.aload_n 0, 1) := by decide +kernel
theorem dX3_night_2 : decode cX3_night 2 = .ok (.getfield 23, 3) := by decide +kernel
theorem dX3_night_5 : decode cX3_night 5 = .ok (.iconst 0, 1) := by decide +kernel
theorem dX3_night_6 : decode cX3_night 6 = .ok (.iaload, 1) := by decide +kernel
theorem dX3_night_7 : decode cX3_night 7 = .ok (.invokevirtual 121, 3) := by decide +kernel
theorem dX3_night_10 : decode cX3_night 10 = .ok (.ireturn, 1) := by decide +kernel
set_option maxRecDepth 20000 in
theorem ggX3_wax_X3_ok : GoodIn wsX3_wax wsX3_ok := goodIn_r _ [6, 7, 8, 9, 10, 11, 12, 13, 14, 15, 16, 17] (by decide +kernel) (by decide +kernel)
set_option maxRecDepth 20000 in
theorem gX3_wax_X3_ok : GoodIn wsX3_wax (wsV RX3 121 RX3 yX3_ok wsX3_ok) := goodIn_app (goodIn_of _ (by decide +kernel)) ggX3_wax_X3_ok
theorem dX3_wax_0 : decode cX3_wax 0 = .ok (.aload_n 0, 1) := by decide +kernel
theorem dX3_wax_1 : decode cX3_wax 1 = .ok (.aload_n 0, 1) := by decide +kernel
theorem dX3_wax_2 : decode cX3_wax 2 = .ok (.getfield 23, 3) := by decide +kernel
theorem dX3_wax_5 : decode cX3_wax 5 = .ok (.iconst 1, 1) := by decide +kernel
theorem dX3_wax_6 : decode cX3_wax 6 = .ok (.iaload, 1) := by decide +kernel
theorem dX3_wax_7 : decode cX3_wax 7 = .ok (.invokevirtual 121, 3) := by decide +kernel
theorem dX3_wax_10 : decode cX3_wax 10 = .ok (.ireturn, 1) := by decide +kernel
set_option maxRecDepth 20000 in
theorem ggX3_darkCandles_X3_allDark : GoodIn wsX3_darkCandles wsX3_allDark := goodIn_r _ [5, 6, 7, 8, 9, 4, 10, 11, 12, 13, 14, 15, 16, 17, 18, 19, 20, 21, 22, 28, 29, 30, 31, 32, 33, 34, 35, 36, 37] (by decide +kernel) (by decide +kernel)
set_option maxRecDepth 20000 in
theorem gX3_darkCandles_X3_allDark : GoodIn wsX3_darkCandles (wsV RX3 133 RX3 yX3_allDark wsX3_allDark) := goodIn_app (goodIn_of _ (by decide +kernel)) ggX3_darkCandles_X3_allDark
set_option maxRecDepth 20000 in
theorem ggX3_darkCandles_X3_ok : GoodIn wsX3_darkCandles wsX3_ok := goodIn_r _ [26, 27, 28, 29, 30, 31, 32, 33, 34, 35, 36, 37] (by decide +kernel) (by decide +kernel)
set_option maxRecDepth 20000 in
theorem gX3_darkCandles_X3_ok : GoodIn wsX3_darkCandles (wsV RX3 121 RX3 yX3_ok wsX3_ok) := goodIn_app (goodIn_of _ (by decide +kernel)) ggX3_darkCandles_X3_ok
theorem dX3_darkCandles_0 : decode cX3_darkCandles 0 = .ok (.aload_n 0, 1) := by decide +kernel
theorem dX3_darkCandles_1 : decode cX3_darkCandles 1 = .ok (.aload_n 0, 1) := by decide +kernel
theorem dX3_darkCandles_2 : decode cX3_darkCandles 2 = .ok (.invokevirtual 133, 3) := by decide +kernel
theorem dX3_darkCandles_5 : decode cX3_darkCandles 5 = .ok (.invokevirtual 121, 3) := by decide +kernel
theorem dX3_darkCandles_8 : decode cX3_darkCandles 8 = .ok (.ireturn, 1) := by decide +kernel
set_option maxRecDepth 20000 in
theorem ggX3_bellsUnrung_X3_ok : GoodIn wsX3_bellsUnrung wsX3_ok := goodIn_r _ [6, 7, 8, 9, 10, 11, 12, 13, 14, 15, 16, 17] (by decide +kernel) (by decide +kernel)
set_option maxRecDepth 20000 in
theorem gX3_bellsUnrung_X3_ok : GoodIn wsX3_bellsUnrung (wsV RX3 121 RX3 yX3_ok wsX3_ok) := goodIn_app (goodIn_of _ (by decide +kernel)) ggX3_bellsUnrung_X3_ok
theorem dX3_bellsUnrung_0 : decode cX3_bellsUnrung 0 = .ok (.aload_n 0, 1) := by decide +kernel
theorem dX3_bellsUnrung_1 : decode cX3_bellsUnrung 1 = .ok (.aload_n 0, 1) := by decide +kernel
theorem dX3_bellsUnrung_2 : decode cX3_bellsUnrung 2 = .ok (.getfield 23, 3) := by decide +kernel
theorem dX3_bellsUnrung_5 : decode cX3_bellsUnrung 5 = .ok (.iconst 2, 1) := by decide +kernel
theorem dX3_bellsUnrung_6 : decode cX3_bellsUnrung 6 = .ok (.iaload, 1) := by decide +kernel
theorem dX3_bellsUnrung_7 : decode cX3_bellsUnrung 7 = .ok (.invokevirtual 121, 3) := by decide +kernel
theorem dX3_bellsUnrung_10 : decode cX3_bellsUnrung 10 = .ok (.ireturn, 1) := by decide +kernel
set_option maxRecDepth 20000 in
theorem ggX3_namesOnWall_X3_onWall : GoodIn wsX3_namesOnWall wsX3_onWall := goodIn_r _ [5, 6, 7, 8, 9, 10, 4, 11, 17, 18, 19, 20, 21, 22, 23, 24, 25, 26] (by decide +kernel) (by decide +kernel)
set_option maxRecDepth 20000 in
theorem gX3_namesOnWall_X3_onWall : GoodIn wsX3_namesOnWall (wsV RX3 136 RX3 yX3_onWall wsX3_onWall) := goodIn_app (goodIn_of _ (by decide +kernel)) ggX3_namesOnWall_X3_onWall
set_option maxRecDepth 20000 in
theorem ggX3_namesOnWall_X3_ok : GoodIn wsX3_namesOnWall wsX3_ok := goodIn_r _ [15, 16, 17, 18, 19, 20, 21, 22, 23, 24, 25, 26] (by decide +kernel) (by decide +kernel)
set_option maxRecDepth 20000 in
theorem gX3_namesOnWall_X3_ok : GoodIn wsX3_namesOnWall (wsV RX3 121 RX3 yX3_ok wsX3_ok) := goodIn_app (goodIn_of _ (by decide +kernel)) ggX3_namesOnWall_X3_ok
theorem dX3_namesOnWall_0 : decode cX3_namesOnWall 0 = .ok (.aload_n 0, 1) := by decide +kernel
theorem dX3_namesOnWall_1 : decode cX3_namesOnWall 1 = .ok (.aload_n 0, 1) := by decide +kernel
theorem dX3_namesOnWall_2 : decode cX3_namesOnWall 2 = .ok (.invokevirtual 136, 3) := by decide +kernel
theorem dX3_namesOnWall_5 : decode cX3_namesOnWall 5 = .ok (.invokevirtual 121, 3) := by decide +kernel
theorem dX3_namesOnWall_8 : decode cX3_namesOnWall 8 = .ok (.ireturn, 1) := by decide +kernel
set_option maxRecDepth 20000 in
theorem ggX3_wouldRing_X3_canSight : GoodIn wsX3_wouldRing wsX3_canSight := goodIn_r _ [5, 6, 7, 8, 9, 10, 4, 11, 12, 13, 14, 15, 16, 17, 18, 19, 20, 21, 22, 23, 24, 25, 26, 27, 28, 29, 30, 52, 53, 54, 55, 56, 57, 58, 59, 60, 61] (by decide +kernel) (by decide +kernel)
set_option maxRecDepth 20000 in
theorem gX3_wouldRing_X3_canSight : GoodIn wsX3_wouldRing (wsV RX3 107 RX3 yX3_canSight wsX3_canSight) := goodIn_app (goodIn_of _ (by decide +kernel)) ggX3_wouldRing_X3_canSight
set_option maxRecDepth 20000 in
theorem ggX3_wouldRing_X3_keep : GoodIn wsX3_wouldRing wsX3_keep := goodIn_r _ [34, 6, 35, 36, 37, 38, 39, 52, 53, 54, 55, 56, 57, 58, 59, 60, 61] (by decide +kernel) (by decide +kernel)
set_option maxRecDepth 20000 in
theorem gX3_wouldRing_X3_keep : GoodIn wsX3_wouldRing (wsV RX3 139 RX3 yX3_keep wsX3_keep) := goodIn_app (goodIn_of _ (by decide +kernel)) ggX3_wouldRing_X3_keep
set_option maxRecDepth 20000 in
theorem ggX3_wouldRing_X3_sightNow : GoodIn wsX3_wouldRing wsX3_sightNow := goodIn_r _ [43, 6, 28, 29, 4, 30, 44, 45, 46, 47, 12, 25, 26, 27, 52, 53, 54, 55, 56, 57, 58, 59, 60, 61] (by decide +kernel) (by decide +kernel)
set_option maxRecDepth 20000 in
theorem gX3_wouldRing_X3_sightNow : GoodIn wsX3_wouldRing (wsV RX3 111 RX3 yX3_sightNow wsX3_sightNow) := goodIn_app (goodIn_of _ (by decide +kernel)) ggX3_wouldRing_X3_sightNow
set_option maxRecDepth 20000 in
theorem ggX3_wouldRing_X3_bringBack : GoodIn wsX3_wouldRing wsX3_bringBack := goodIn_r _ [51, 35, 6, 36, 37, 38, 39, 52, 53, 54, 55, 56, 57, 58, 59, 60, 61] (by decide +kernel) (by decide +kernel)
set_option maxRecDepth 20000 in
theorem gX3_wouldRing_X3_bringBack : GoodIn wsX3_wouldRing (wsV RX3 142 RX3 yX3_bringBack wsX3_bringBack) := goodIn_app (goodIn_of _ (by decide +kernel)) ggX3_wouldRing_X3_bringBack
theorem dX3_wouldRing_0 : decode cX3_wouldRing 0 = .ok (.aload_n 0, 1) := by decide +kernel
theorem dX3_wouldRing_1 : decode cX3_wouldRing 1 = .ok (.iload_n 1, 1) := by decide +kernel
theorem dX3_wouldRing_2 : decode cX3_wouldRing 2 = .ok (.iload_n 2, 1) := by decide +kernel
theorem dX3_wouldRing_3 : decode cX3_wouldRing 3 = .ok (.invokevirtual 107, 3) := by decide +kernel
theorem dX3_wouldRing_6 : decode cX3_wouldRing 6 = .ok (.ifCond .ne 5, 3) := by decide +kernel
theorem dX3_wouldRing_9 : decode cX3_wouldRing 9 = .ok (.iconst 0, 1) := by decide +kernel
theorem dX3_wouldRing_10 : decode cX3_wouldRing 10 = .ok (.ireturn, 1) := by decide +kernel
theorem dX3_wouldRing_11 : decode cX3_wouldRing 11 = .ok (.aload_n 0, 1) := by decide +kernel
theorem dX3_wouldRing_12 : decode cX3_wouldRing 12 = .ok (.invokevirtual 139, 3) := by decide +kernel
theorem dX3_wouldRing_15 : decode cX3_wouldRing 15 = .ok (.aload_n 0, 1) := by decide +kernel
theorem dX3_wouldRing_16 : decode cX3_wouldRing 16 = .ok (.iload_n 1, 1) := by decide +kernel
theorem dX3_wouldRing_17 : decode cX3_wouldRing 17 = .ok (.iload_n 2, 1) := by decide +kernel
theorem dX3_wouldRing_18 : decode cX3_wouldRing 18 = .ok (.invokevirtual 111, 3) := by decide +kernel
theorem dX3_wouldRing_21 : decode cX3_wouldRing 21 = .ok (.istore_n 3, 1) := by decide +kernel
theorem dX3_wouldRing_22 : decode cX3_wouldRing 22 = .ok (.aload_n 0, 1) := by decide +kernel
theorem dX3_wouldRing_23 : decode cX3_wouldRing 23 = .ok (.invokevirtual 142, 3) := by decide +kernel
theorem dX3_wouldRing_26 : decode cX3_wouldRing 26 = .ok (.iload_n 3, 1) := by decide +kernel
theorem dX3_wouldRing_27 : decode cX3_wouldRing 27 = .ok (.ireturn, 1) := by decide +kernel
set_option maxRecDepth 20000 in
theorem ggX3_nightsUntilUnrung_X3_isShip : GoodIn wsX3_nightsUntilUnrung wsX3_isShip := goodIn_r _ [7, 8, 9, 10, 6, 11, 79, 80, 81, 82, 83, 84, 85, 86, 87, 88] (by decide +kernel) (by decide +kernel)
set_option maxRecDepth 20000 in
theorem gX3_nightsUntilUnrung_X3_isShip : GoodIn wsX3_nightsUntilUnrung (wsV RX3 98 RX3 yX3_isShip wsX3_isShip) := goodIn_app (goodIn_of _ (by decide +kernel)) ggX3_nightsUntilUnrung_X3_isShip
set_option maxRecDepth 20000 in
theorem ggX3_nightsUntilUnrung_X3_no : GoodIn wsX3_nightsUntilUnrung wsX3_no := goodIn_r _ [15, 1, 79, 80, 81, 82, 83, 84, 85, 86, 87, 88] (by decide +kernel) (by decide +kernel)
set_option maxRecDepth 20000 in
theorem gX3_nightsUntilUnrung_X3_no : GoodIn wsX3_nightsUntilUnrung (wsV RX3 95 RX3 yX3_no wsX3_no) := goodIn_app (goodIn_of _ (by decide +kernel)) ggX3_nightsUntilUnrung_X3_no
set_option maxRecDepth 20000 in
theorem ggX3_nightsUntilUnrung_X3_ship : GoodIn wsX3_nightsUntilUnrung wsX3_ship := goodIn_r _ [18] (by decide +kernel) (by decide +kernel)
set_option maxRecDepth 20000 in
theorem gX3_nightsUntilUnrung_X3_ship : GoodIn wsX3_nightsUntilUnrung (va_wsS RX3 46 yX3_ship wsX3_ship) := goodIn_app (goodIn_of _ (by decide +kernel)) ggX3_nightsUntilUnrung_X3_ship
set_option maxRecDepth 20000 in
theorem ggX3_nightsUntilUnrung_X3_keep : GoodIn wsX3_nightsUntilUnrung wsX3_keep := goodIn_r _ [22, 2, 23, 24, 25, 26, 27, 79, 80, 81, 82, 83, 84, 85, 86, 87, 88] (by decide +kernel) (by decide +kernel)
set_option maxRecDepth 20000 in
theorem gX3_nightsUntilUnrung_X3_keep : GoodIn wsX3_nightsUntilUnrung (wsV RX3 139 RX3 yX3_keep wsX3_keep) := goodIn_app (goodIn_of _ (by decide +kernel)) ggX3_nightsUntilUnrung_X3_keep
set_option maxRecDepth 20000 in
theorem ggX3_nightsUntilUnrung_X3_nightOn : GoodIn wsX3_nightsUntilUnrung wsX3_nightOn := goodIn_r _ [31, 8, 2, 32, 33, 34, 35, 6, 36, 37, 38, 39, 40, 41, 42, 43, 44, 16, 17, 18, 45, 46, 47, 48, 49, 50, 51, 52, 53, 54, 55, 56, 57, 58, 59, 60, 61, 62, 63, 64, 65, 66, 67, 68, 69, 70, 71, 72, 73, 74, 79, 80, 81, 82, 83, 84, 85, 86, 87, 88] (by decide +kernel) (by decide +kernel)
set_option maxRecDepth 20000 in
theorem gX3_nightsUntilUnrung_X3_nightOn : GoodIn wsX3_nightsUntilUnrung (wsV RX3 117 RX3 yX3_nightOn wsX3_nightOn) := goodIn_app (goodIn_of _ (by decide +kernel)) ggX3_nightsUntilUnrung_X3_nightOn
set_option maxRecDepth 20000 in
theorem ggX3_nightsUntilUnrung_X3_bringBack : GoodIn wsX3_nightsUntilUnrung wsX3_bringBack := goodIn_r _ [78, 23, 2, 24, 25, 26, 27, 79, 80, 81, 82, 83, 84, 85, 86, 87, 88] (by decide +kernel) (by decide +kernel)
set_option maxRecDepth 20000 in
theorem gX3_nightsUntilUnrung_X3_bringBack : GoodIn wsX3_nightsUntilUnrung (wsV RX3 142 RX3 yX3_bringBack wsX3_bringBack) := goodIn_app (goodIn_of _ (by decide +kernel)) ggX3_nightsUntilUnrung_X3_bringBack
theorem dX3_nightsUntilUnrung_0 : decode cX3_nightsUntilUnrung 0 = .ok (.aload_n 0, 1) := by decide +kernel
theorem dX3_nightsUntilUnrung_1 : decode cX3_nightsUntilUnrung 1 = .ok (.iconst 0, 1) := by decide +kernel
theorem dX3_nightsUntilUnrung_2 : decode cX3_nightsUntilUnrung 2 = .ok (.putfield 29, 3) := by decide +kernel
theorem dX3_nightsUntilUnrung_5 : decode cX3_nightsUntilUnrung 5 = .ok (.aload_n 0, 1) := by decide +kernel
theorem dX3_nightsUntilUnrung_6 : decode cX3_nightsUntilUnrung 6 = .ok (.iload_n 1, 1) := by decide +kernel
theorem dX3_nightsUntilUnrung_7 : decode cX3_nightsUntilUnrung 7 = .ok (.invokevirtual 98, 3) := by decide +kernel
theorem dX3_nightsUntilUnrung_10 : decode cX3_nightsUntilUnrung 10 = .ok (.ifCond .ne 9, 3) := by decide +kernel
theorem dX3_nightsUntilUnrung_13 : decode cX3_nightsUntilUnrung 13 = .ok (.aload_n 0, 1) := by decide +kernel
theorem dX3_nightsUntilUnrung_14 : decode cX3_nightsUntilUnrung 14 = .ok (.iconst 1, 1) := by decide +kernel
theorem dX3_nightsUntilUnrung_15 : decode cX3_nightsUntilUnrung 15 = .ok (.invokevirtual 95, 3) := by decide +kernel
theorem dX3_nightsUntilUnrung_18 : decode cX3_nightsUntilUnrung 18 = .ok (.ireturn, 1) := by decide +kernel
theorem dX3_nightsUntilUnrung_19 : decode cX3_nightsUntilUnrung 19 = .ok (.aload_n 0, 1) := by decide +kernel
theorem dX3_nightsUntilUnrung_20 : decode cX3_nightsUntilUnrung 20 = .ok (.getfield 23, 3) := by decide +kernel
theorem dX3_nightsUntilUnrung_23 : decode cX3_nightsUntilUnrung 23 = .ok (.iload_n 1, 1) := by decide +kernel
theorem dX3_nightsUntilUnrung_24 : decode cX3_nightsUntilUnrung 24 = .ok (.iconst 2, 1) := by decide +kernel
theorem dX3_nightsUntilUnrung_25 : decode cX3_nightsUntilUnrung 25 = .ok (.invokestatic 46, 3) := by decide +kernel
theorem dX3_nightsUntilUnrung_28 : decode cX3_nightsUntilUnrung 28 = .ok (.iaload, 1) := by decide +kernel
theorem dX3_nightsUntilUnrung_29 : decode cX3_nightsUntilUnrung 29 = .ok (.ifCond .ne 9, 3) := by decide +kernel
theorem dX3_nightsUntilUnrung_32 : decode cX3_nightsUntilUnrung 32 = .ok (.aload_n 0, 1) := by decide +kernel
theorem dX3_nightsUntilUnrung_33 : decode cX3_nightsUntilUnrung 33 = .ok (.iconst 2, 1) := by decide +kernel
theorem dX3_nightsUntilUnrung_34 : decode cX3_nightsUntilUnrung 34 = .ok (.invokevirtual 95, 3) := by decide +kernel
theorem dX3_nightsUntilUnrung_37 : decode cX3_nightsUntilUnrung 37 = .ok (.ireturn, 1) := by decide +kernel
theorem dX3_nightsUntilUnrung_38 : decode cX3_nightsUntilUnrung 38 = .ok (.aload_n 0, 1) := by decide +kernel
theorem dX3_nightsUntilUnrung_39 : decode cX3_nightsUntilUnrung 39 = .ok (.invokevirtual 139, 3) := by decide +kernel
theorem dX3_nightsUntilUnrung_42 : decode cX3_nightsUntilUnrung 42 = .ok (.iconst 0, 1) := by decide +kernel
theorem dX3_nightsUntilUnrung_43 : decode cX3_nightsUntilUnrung 43 = .ok (.istore_n 2, 1) := by decide +kernel
theorem dX3_nightsUntilUnrung_44 : decode cX3_nightsUntilUnrung 44 = .ok (.aload_n 0, 1) := by decide +kernel
theorem dX3_nightsUntilUnrung_45 : decode cX3_nightsUntilUnrung 45 = .ok (.getfield 23, 3) := by decide +kernel
theorem dX3_nightsUntilUnrung_48 : decode cX3_nightsUntilUnrung 48 = .ok (.iload_n 1, 1) := by decide +kernel
theorem dX3_nightsUntilUnrung_49 : decode cX3_nightsUntilUnrung 49 = .ok (.iconst 2, 1) := by decide +kernel
theorem dX3_nightsUntilUnrung_50 : decode cX3_nightsUntilUnrung 50 = .ok (.invokestatic 46, 3) := by decide +kernel
theorem dX3_nightsUntilUnrung_53 : decode cX3_nightsUntilUnrung 53 = .ok (.iaload, 1) := by decide +kernel
theorem dX3_nightsUntilUnrung_54 : decode cX3_nightsUntilUnrung 54 = .ok (.iconst 1, 1) := by decide +kernel
theorem dX3_nightsUntilUnrung_55 : decode cX3_nightsUntilUnrung 55 = .ok (.if_icmp .ne 14, 3) := by decide +kernel
theorem dX3_nightsUntilUnrung_58 : decode cX3_nightsUntilUnrung 58 = .ok (.aload_n 0, 1) := by decide +kernel
theorem dX3_nightsUntilUnrung_59 : decode cX3_nightsUntilUnrung 59 = .ok (.invokevirtual 117, 3) := by decide +kernel
theorem dX3_nightsUntilUnrung_62 : decode cX3_nightsUntilUnrung 62 = .ok (.pop, 1) := by decide +kernel
theorem dX3_nightsUntilUnrung_63 : decode cX3_nightsUntilUnrung 63 = .ok (.iinc 2 1, 3) := by decide +kernel
theorem dX3_nightsUntilUnrung_66 : decode cX3_nightsUntilUnrung 66 = .ok (.goto (-22), 3) := by decide +kernel
theorem dX3_nightsUntilUnrung_69 : decode cX3_nightsUntilUnrung 69 = .ok (.aload_n 0, 1) := by decide +kernel
theorem dX3_nightsUntilUnrung_70 : decode cX3_nightsUntilUnrung 70 = .ok (.invokevirtual 142, 3) := by decide +kernel
theorem dX3_nightsUntilUnrung_73 : decode cX3_nightsUntilUnrung 73 = .ok (.iload_n 2, 1) := by decide +kernel
theorem dX3_nightsUntilUnrung_74 : decode cX3_nightsUntilUnrung 74 = .ok (.ireturn, 1) := by decide +kernel
set_option maxRecDepth 20000 in
theorem ggX3_nightsUntilDark_X3_keep : GoodIn wsX3_nightsUntilDark wsX3_keep := goodIn_r _ [6, 7, 8, 9, 10, 11, 12, 76, 77, 78, 79, 80, 81, 82, 83, 84, 85] (by decide +kernel) (by decide +kernel)
set_option maxRecDepth 20000 in
theorem gX3_nightsUntilDark_X3_keep : GoodIn wsX3_nightsUntilDark (wsV RX3 139 RX3 yX3_keep wsX3_keep) := goodIn_app (goodIn_of _ (by decide +kernel)) ggX3_nightsUntilDark_X3_keep
set_option maxRecDepth 20000 in
theorem ggX3_nightsUntilDark_X3_allDark : GoodIn wsX3_nightsUntilDark wsX3_allDark := goodIn_r _ [16, 17, 18, 19, 20, 5, 21, 22, 7, 23, 24, 25, 26, 27, 28, 29, 30, 31, 32, 76, 77, 78, 79, 80, 81, 82, 83, 84, 85] (by decide +kernel) (by decide +kernel)
set_option maxRecDepth 20000 in
theorem gX3_nightsUntilDark_X3_allDark : GoodIn wsX3_nightsUntilDark (wsV RX3 133 RX3 yX3_allDark wsX3_allDark) := goodIn_app (goodIn_of _ (by decide +kernel)) ggX3_nightsUntilDark_X3_allDark
set_option maxRecDepth 20000 in
theorem ggX3_nightsUntilDark_X3_nightOn : GoodIn wsX3_nightsUntilDark wsX3_nightOn := goodIn_r _ [36, 37, 7, 17, 38, 39, 40, 5, 41, 42, 43, 44, 45, 46, 47, 48, 49, 27, 28, 29, 50, 51, 52, 53, 54, 55, 56, 57, 22, 58, 23, 24, 25, 26, 30, 31, 32, 59, 60, 61, 62, 63, 64, 65, 66, 67, 68, 69, 70, 71, 76, 77, 78, 79, 80, 81, 82, 83, 84, 85] (by decide +kernel) (by decide +kernel)
set_option maxRecDepth 20000 in
theorem gX3_nightsUntilDark_X3_nightOn : GoodIn wsX3_nightsUntilDark (wsV RX3 117 RX3 yX3_nightOn wsX3_nightOn) := goodIn_app (goodIn_of _ (by decide +kernel)) ggX3_nightsUntilDark_X3_nightOn
set_option maxRecDepth 20000 in
theorem ggX3_nightsUntilDark_X3_bringBack : GoodIn wsX3_nightsUntilDark wsX3_bringBack := goodIn_r _ [75, 8, 7, 9, 10, 11, 12, 76, 77, 78, 79, 80, 81, 82, 83, 84, 85] (by decide +kernel) (by decide +kernel)
set_option maxRecDepth 20000 in
theorem gX3_nightsUntilDark_X3_bringBack : GoodIn wsX3_nightsUntilDark (wsV RX3 142 RX3 yX3_bringBack wsX3_bringBack) := goodIn_app (goodIn_of _ (by decide +kernel)) ggX3_nightsUntilDark_X3_bringBack
theorem dX3_nightsUntilDark_0 : decode cX3_nightsUntilDark 0 = .ok (.aload_n 0, 1) := by decide +kernel
theorem dX3_nightsUntilDark_1 : decode cX3_nightsUntilDark 1 = .ok (.iconst 0, 1) := by decide +kernel
theorem dX3_nightsUntilDark_2 : decode cX3_nightsUntilDark 2 = .ok (.putfield 29, 3) := by decide +kernel
theorem dX3_nightsUntilDark_5 : decode cX3_nightsUntilDark 5 = .ok (.aload_n 0, 1) := by decide +kernel
theorem dX3_nightsUntilDark_6 : decode cX3_nightsUntilDark 6 = .ok (.invokevirtual 139, 3) := by decide +kernel
theorem dX3_nightsUntilDark_9 : decode cX3_nightsUntilDark 9 = .ok (.iconst 0, 1) := by decide +kernel
theorem dX3_nightsUntilDark_10 : decode cX3_nightsUntilDark 10 = .ok (.istore_n 1, 1) := by decide +kernel
theorem dX3_nightsUntilDark_11 : decode cX3_nightsUntilDark 11 = .ok (.iload_n 1, 1) := by decide +kernel
theorem dX3_nightsUntilDark_12 : decode cX3_nightsUntilDark 12 = .ok (.sipush 200, 3) := by decide +kernel
theorem dX3_nightsUntilDark_15 : decode cX3_nightsUntilDark 15 = .ok (.if_icmp .gt 21, 3) := by decide +kernel
theorem dX3_nightsUntilDark_18 : decode cX3_nightsUntilDark 18 = .ok (.aload_n 0, 1) := by decide +kernel
theorem dX3_nightsUntilDark_19 : decode cX3_nightsUntilDark 19 = .ok (.invokevirtual 133, 3) := by decide +kernel
theorem dX3_nightsUntilDark_22 : decode cX3_nightsUntilDark 22 = .ok (.ifCond .ne 14, 3) := by decide +kernel
theorem dX3_nightsUntilDark_25 : decode cX3_nightsUntilDark 25 = .ok (.aload_n 0, 1) := by decide +kernel
theorem dX3_nightsUntilDark_26 : decode cX3_nightsUntilDark 26 = .ok (.invokevirtual 117, 3) := by decide +kernel
theorem dX3_nightsUntilDark_29 : decode cX3_nightsUntilDark 29 = .ok (.pop, 1) := by decide +kernel
theorem dX3_nightsUntilDark_30 : decode cX3_nightsUntilDark 30 = .ok (.iinc 1 1, 3) := by decide +kernel
theorem dX3_nightsUntilDark_33 : decode cX3_nightsUntilDark 33 = .ok (.goto (-22), 3) := by decide +kernel
theorem dX3_nightsUntilDark_36 : decode cX3_nightsUntilDark 36 = .ok (.aload_n 0, 1) := by decide +kernel
theorem dX3_nightsUntilDark_37 : decode cX3_nightsUntilDark 37 = .ok (.invokevirtual 142, 3) := by decide +kernel
theorem dX3_nightsUntilDark_40 : decode cX3_nightsUntilDark 40 = .ok (.iload_n 1, 1) := by decide +kernel
theorem dX3_nightsUntilDark_41 : decode cX3_nightsUntilDark 41 = .ok (.sipush 200, 3) := by decide +kernel
theorem dX3_nightsUntilDark_44 : decode cX3_nightsUntilDark 44 = .ok (.if_icmp .le 7, 3) := by decide +kernel
theorem dX3_nightsUntilDark_47 : decode cX3_nightsUntilDark 47 = .ok (.iconst (-1), 1) := by decide +kernel
theorem dX3_nightsUntilDark_48 : decode cX3_nightsUntilDark 48 = .ok (.goto 4, 3) := by decide +kernel
theorem dX3_nightsUntilDark_51 : decode cX3_nightsUntilDark 51 = .ok (.iload_n 1, 1) := by decide +kernel
theorem dX3_nightsUntilDark_52 : decode cX3_nightsUntilDark 52 = .ok (.ireturn, 1) := by decide +kernel
set_option maxRecDepth 20000 in
theorem ggX3_waxAfter_X3_isIn : GoodIn wsX3_waxAfter wsX3_isIn := goodIn_r _ [6] (by decide +kernel) (by decide +kernel)
set_option maxRecDepth 20000 in
theorem gX3_waxAfter_X3_isIn : GoodIn wsX3_waxAfter (va_wsS RX3 36 yX3_isIn wsX3_isIn) := goodIn_app (goodIn_of _ (by decide +kernel)) ggX3_waxAfter_X3_isIn
set_option maxRecDepth 20000 in
theorem ggX3_waxAfter_X3_no : GoodIn wsX3_waxAfter wsX3_no := goodIn_r _ [10, 1, 75, 76, 77, 78, 79, 80, 81, 82, 83, 84] (by decide +kernel) (by decide +kernel)
set_option maxRecDepth 20000 in
theorem gX3_waxAfter_X3_no : GoodIn wsX3_waxAfter (wsV RX3 95 RX3 yX3_no wsX3_no) := goodIn_app (goodIn_of _ (by decide +kernel)) ggX3_waxAfter_X3_no
set_option maxRecDepth 20000 in
theorem ggX3_waxAfter_X3_keep : GoodIn wsX3_waxAfter wsX3_keep := goodIn_r _ [14, 2, 15, 16, 17, 18, 19, 75, 76, 77, 78, 79, 80, 81, 82, 83, 84] (by decide +kernel) (by decide +kernel)
set_option maxRecDepth 20000 in
theorem gX3_waxAfter_X3_keep : GoodIn wsX3_waxAfter (wsV RX3 139 RX3 yX3_keep wsX3_keep) := goodIn_app (goodIn_of _ (by decide +kernel)) ggX3_waxAfter_X3_keep
set_option maxRecDepth 20000 in
theorem ggX3_waxAfter_X3_nightOn : GoodIn wsX3_waxAfter wsX3_nightOn := goodIn_r _ [23, 24, 2, 25, 26, 27, 28, 5, 29, 30, 31, 32, 33, 34, 35, 36, 37, 38, 39, 40, 41, 42, 43, 44, 45, 46, 47, 48, 49, 50, 51, 52, 53, 54, 55, 56, 57, 58, 59, 60, 61, 62, 63, 64, 65, 66, 67, 68, 69, 70, 75, 76, 77, 78, 79, 80, 81, 82, 83, 84] (by decide +kernel) (by decide +kernel)
set_option maxRecDepth 20000 in
theorem gX3_waxAfter_X3_nightOn : GoodIn wsX3_waxAfter (wsV RX3 117 RX3 yX3_nightOn wsX3_nightOn) := goodIn_app (goodIn_of _ (by decide +kernel)) ggX3_waxAfter_X3_nightOn
set_option maxRecDepth 20000 in
theorem ggX3_waxAfter_X3_bringBack : GoodIn wsX3_waxAfter wsX3_bringBack := goodIn_r _ [74, 15, 2, 16, 17, 18, 19, 75, 76, 77, 78, 79, 80, 81, 82, 83, 84] (by decide +kernel) (by decide +kernel)
set_option maxRecDepth 20000 in
theorem gX3_waxAfter_X3_bringBack : GoodIn wsX3_waxAfter (wsV RX3 142 RX3 yX3_bringBack wsX3_bringBack) := goodIn_app (goodIn_of _ (by decide +kernel)) ggX3_waxAfter_X3_bringBack
theorem dX3_waxAfter_0 : decode cX3_waxAfter 0 = .ok (.aload_n 0, 1) := by decide +kernel
theorem dX3_waxAfter_1 : decode cX3_waxAfter 1 = .ok (.iconst 0, 1) := by decide +kernel
theorem dX3_waxAfter_2 : decode cX3_waxAfter 2 = .ok (.putfield 29, 3) := by decide +kernel
theorem dX3_waxAfter_5 : decode cX3_waxAfter 5 = .ok (.iload_n 1, 1) := by decide +kernel
theorem dX3_waxAfter_6 : decode cX3_waxAfter 6 = .ok (.iconst 1, 1) := by decide +kernel
theorem dX3_waxAfter_7 : decode cX3_waxAfter 7 = .ok (.sipush 200, 3) := by decide +kernel
theorem dX3_waxAfter_10 : decode cX3_waxAfter 10 = .ok (.invokestatic 36, 3) := by decide +kernel
theorem dX3_waxAfter_13 : decode cX3_waxAfter 13 = .ok (.ifCond .ne 9, 3) := by decide +kernel
theorem dX3_waxAfter_16 : decode cX3_waxAfter 16 = .ok (.aload_n 0, 1) := by decide +kernel
theorem dX3_waxAfter_17 : decode cX3_waxAfter 17 = .ok (.iconst 1, 1) := by decide +kernel
theorem dX3_waxAfter_18 : decode cX3_waxAfter 18 = .ok (.invokevirtual 95, 3) := by decide +kernel
theorem dX3_waxAfter_21 : decode cX3_waxAfter 21 = .ok (.ireturn, 1) := by decide +kernel
theorem dX3_waxAfter_22 : decode cX3_waxAfter 22 = .ok (.aload_n 0, 1) := by decide +kernel
theorem dX3_waxAfter_23 : decode cX3_waxAfter 23 = .ok (.invokevirtual 139, 3) := by decide +kernel
theorem dX3_waxAfter_26 : decode cX3_waxAfter 26 = .ok (.iconst 0, 1) := by decide +kernel
theorem dX3_waxAfter_27 : decode cX3_waxAfter 27 = .ok (.istore_n 2, 1) := by decide +kernel
theorem dX3_waxAfter_28 : decode cX3_waxAfter 28 = .ok (.iload_n 2, 1) := by decide +kernel
theorem dX3_waxAfter_29 : decode cX3_waxAfter 29 = .ok (.iload_n 1, 1) := by decide +kernel
theorem dX3_waxAfter_30 : decode cX3_waxAfter 30 = .ok (.if_icmp .ge 14, 3) := by decide +kernel
theorem dX3_waxAfter_33 : decode cX3_waxAfter 33 = .ok (.aload_n 0, 1) := by decide +kernel
theorem dX3_waxAfter_34 : decode cX3_waxAfter 34 = .ok (.invokevirtual 117, 3) := by decide +kernel
theorem dX3_waxAfter_37 : decode cX3_waxAfter 37 = .ok (.pop, 1) := by decide +kernel
theorem dX3_waxAfter_38 : decode cX3_waxAfter 38 = .ok (.iinc 2 1, 3) := by decide +kernel
theorem dX3_waxAfter_41 : decode cX3_waxAfter 41 = .ok (.goto (-13), 3) := by decide +kernel
theorem dX3_waxAfter_44 : decode cX3_waxAfter 44 = .ok (.aload_n 0, 1) := by decide +kernel
theorem dX3_waxAfter_45 : decode cX3_waxAfter 45 = .ok (.getfield 23, 3) := by decide +kernel
theorem dX3_waxAfter_48 : decode cX3_waxAfter 48 = .ok (.iconst 1, 1) := by decide +kernel
theorem dX3_waxAfter_49 : decode cX3_waxAfter 49 = .ok (.iaload, 1) := by decide +kernel
theorem dX3_waxAfter_50 : decode cX3_waxAfter 50 = .ok (.istore_n 2, 1) := by decide +kernel
theorem dX3_waxAfter_51 : decode cX3_waxAfter 51 = .ok (.aload_n 0, 1) := by decide +kernel
theorem dX3_waxAfter_52 : decode cX3_waxAfter 52 = .ok (.invokevirtual 142, 3) := by decide +kernel
theorem dX3_waxAfter_55 : decode cX3_waxAfter 55 = .ok (.iload_n 2, 1) := by decide +kernel
theorem dX3_waxAfter_56 : decode cX3_waxAfter 56 = .ok (.ireturn, 1) := by decide +kernel
set_option maxRecDepth 20000 in
theorem ggX3_isEnough_X3_keep : GoodIn wsX3_isEnough wsX3_keep := goodIn_r _ [6, 1, 7, 8, 9, 10, 11, 75, 76, 77, 78, 79, 80, 81, 82, 83, 84] (by decide +kernel) (by decide +kernel)
set_option maxRecDepth 20000 in
theorem gX3_isEnough_X3_keep : GoodIn wsX3_isEnough (wsV RX3 139 RX3 yX3_keep wsX3_keep) := goodIn_app (goodIn_of _ (by decide +kernel)) ggX3_isEnough_X3_keep
set_option maxRecDepth 20000 in
theorem ggX3_isEnough_X3_nightOn : GoodIn wsX3_isEnough wsX3_nightOn := goodIn_r _ [15, 16, 1, 17, 18, 19, 20, 5, 21, 22, 23, 24, 25, 26, 27, 28, 29, 30, 31, 32, 33, 34, 35, 36, 37, 38, 39, 40, 41, 42, 43, 44, 45, 46, 47, 48, 49, 50, 51, 52, 53, 54, 55, 56, 57, 58, 59, 60, 61, 62, 75, 76, 77, 78, 79, 80, 81, 82, 83, 84] (by decide +kernel) (by decide +kernel)
set_option maxRecDepth 20000 in
theorem gX3_isEnough_X3_nightOn : GoodIn wsX3_isEnough (wsV RX3 117 RX3 yX3_nightOn wsX3_nightOn) := goodIn_app (goodIn_of _ (by decide +kernel)) ggX3_isEnough_X3_nightOn
set_option maxRecDepth 20000 in
theorem ggX3_isEnough_X3_allDark : GoodIn wsX3_isEnough wsX3_allDark := goodIn_r _ [66, 17, 67, 68, 69, 5, 70, 41, 1, 43, 44, 45, 46, 30, 31, 32, 47, 48, 49, 75, 76, 77, 78, 79, 80, 81, 82, 83, 84] (by decide +kernel) (by decide +kernel)
set_option maxRecDepth 20000 in
theorem gX3_isEnough_X3_allDark : GoodIn wsX3_isEnough (wsV RX3 133 RX3 yX3_allDark wsX3_allDark) := goodIn_app (goodIn_of _ (by decide +kernel)) ggX3_isEnough_X3_allDark
set_option maxRecDepth 20000 in
theorem ggX3_isEnough_X3_bringBack : GoodIn wsX3_isEnough wsX3_bringBack := goodIn_r _ [74, 7, 1, 8, 9, 10, 11, 75, 76, 77, 78, 79, 80, 81, 82, 83, 84] (by decide +kernel) (by decide +kernel)
set_option maxRecDepth 20000 in
theorem gX3_isEnough_X3_bringBack : GoodIn wsX3_isEnough (wsV RX3 142 RX3 yX3_bringBack wsX3_bringBack) := goodIn_app (goodIn_of _ (by decide +kernel)) ggX3_isEnough_X3_bringBack
theorem dX3_isEnough_0 : decode cX3_isEnough 0 = .ok (.aload_n 0, 1) := by decide +kernel
theorem dX3_isEnough_1 : decode cX3_isEnough 1 = .ok (.invokevirtual 139, 3) := by decide +kernel
theorem dX3_isEnough_4 : decode cX3_isEnough 4 = .ok (.aload_n 0, 1) := by decide +kernel
theorem dX3_isEnough_5 : decode cX3_isEnough 5 = .ok (.getfield 23, 3) := by decide +kernel
theorem dX3_isEnough_8 : decode cX3_isEnough 8 = .ok (.iconst 1, 1) := by decide +kernel
theorem dX3_isEnough_9 : decode cX3_isEnough 9 = .ok (.dup2, 1) := by decide +kernel
theorem dX3_isEnough_10 : decode cX3_isEnough 10 = .ok (.iaload, 1) := by decide +kernel
theorem dX3_isEnough_11 : decode cX3_isEnough 11 = .ok (.iload_n 1, 1) := by decide +kernel
theorem dX3_isEnough_12 : decode cX3_isEnough 12 = .ok (.iadd, 1) := by decide +kernel
theorem dX3_isEnough_13 : decode cX3_isEnough 13 = .ok (.iastore, 1) := by decide +kernel
theorem dX3_isEnough_14 : decode cX3_isEnough 14 = .ok (.iconst 1, 1) := by decide +kernel
theorem dX3_isEnough_15 : decode cX3_isEnough 15 = .ok (.istore_n 3, 1) := by decide +kernel
theorem dX3_isEnough_16 : decode cX3_isEnough 16 = .ok (.iconst 0, 1) := by decide +kernel
theorem dX3_isEnough_17 : decode cX3_isEnough 17 = .ok (.istore 4, 2) := by decide +kernel
theorem dX3_isEnough_19 : decode cX3_isEnough 19 = .ok (.iload 4, 2) := by decide +kernel
theorem dX3_isEnough_21 : decode cX3_isEnough 21 = .ok (.iload_n 2, 1) := by decide +kernel
theorem dX3_isEnough_22 : decode cX3_isEnough 22 = .ok (.if_icmp .ge 31, 3) := by decide +kernel
theorem dX3_isEnough_25 : decode cX3_isEnough 25 = .ok (.iload_n 3, 1) := by decide +kernel
theorem dX3_isEnough_26 : decode cX3_isEnough 26 = .ok (.ifCond .eq 27, 3) := by decide +kernel
theorem dX3_isEnough_29 : decode cX3_isEnough 29 = .ok (.aload_n 0, 1) := by decide +kernel
theorem dX3_isEnough_30 : decode cX3_isEnough 30 = .ok (.invokevirtual 117, 3) := by decide +kernel
theorem dX3_isEnough_33 : decode cX3_isEnough 33 = .ok (.pop, 1) := by decide +kernel
theorem dX3_isEnough_34 : decode cX3_isEnough 34 = .ok (.aload_n 0, 1) := by decide +kernel
theorem dX3_isEnough_35 : decode cX3_isEnough 35 = .ok (.invokevirtual 133, 3) := by decide +kernel
theorem dX3_isEnough_38 : decode cX3_isEnough 38 = .ok (.ifCond .ne 7, 3) := by decide +kernel
theorem dX3_isEnough_41 : decode cX3_isEnough 41 = .ok (.iconst 1, 1) := by decide +kernel
theorem dX3_isEnough_42 : decode cX3_isEnough 42 = .ok (.goto 4, 3) := by decide +kernel
theorem dX3_isEnough_45 : decode cX3_isEnough 45 = .ok (.iconst 0, 1) := by decide +kernel
theorem dX3_isEnough_46 : decode cX3_isEnough 46 = .ok (.istore_n 3, 1) := by decide +kernel
theorem dX3_isEnough_47 : decode cX3_isEnough 47 = .ok (.iinc 4 1, 3) := by decide +kernel
theorem dX3_isEnough_50 : decode cX3_isEnough 50 = .ok (.goto (-31), 3) := by decide +kernel
theorem dX3_isEnough_53 : decode cX3_isEnough 53 = .ok (.aload_n 0, 1) := by decide +kernel
theorem dX3_isEnough_54 : decode cX3_isEnough 54 = .ok (.invokevirtual 142, 3) := by decide +kernel
theorem dX3_isEnough_57 : decode cX3_isEnough 57 = .ok (.iload_n 3, 1) := by decide +kernel
theorem dX3_isEnough_58 : decode cX3_isEnough 58 = .ok (.ireturn, 1) := by decide +kernel
set_option maxRecDepth 20000 in
theorem ggX3_waxWanted_X3_isIn : GoodIn wsX3_waxWanted wsX3_isIn := goodIn_r _ [5] (by decide +kernel) (by decide +kernel)
set_option maxRecDepth 20000 in
theorem gX3_waxWanted_X3_isIn : GoodIn wsX3_waxWanted (va_wsS RX3 36 yX3_isIn wsX3_isIn) := goodIn_app (goodIn_of _ (by decide +kernel)) ggX3_waxWanted_X3_isIn
set_option maxRecDepth 20000 in
theorem ggX3_waxWanted_X3_no : GoodIn wsX3_waxWanted wsX3_no := goodIn_r _ [9, 1, 87, 88, 89, 90, 91, 92, 93, 94, 95, 96] (by decide +kernel) (by decide +kernel)
set_option maxRecDepth 20000 in
theorem gX3_waxWanted_X3_no : GoodIn wsX3_waxWanted (wsV RX3 95 RX3 yX3_no wsX3_no) := goodIn_app (goodIn_of _ (by decide +kernel)) ggX3_waxWanted_X3_no
set_option maxRecDepth 20000 in
theorem ggX3_waxWanted_X3_isEnough : GoodIn wsX3_waxWanted wsX3_isEnough := goodIn_r _ [13, 14, 15, 16, 17, 4, 18, 19, 20, 21, 22, 23, 24, 25, 26, 27, 28, 29, 30, 31, 32, 33, 34, 35, 36, 37, 38, 39, 40, 41, 42, 43, 44, 45, 46, 47, 48, 49, 50, 51, 52, 53, 54, 55, 56, 57, 58, 59, 60, 61, 62, 63, 64, 65, 66, 67, 68, 69, 70, 71, 72, 73, 74, 75, 76, 77, 78, 79, 80, 81, 82, 83, 84, 85, 86, 87, 88, 89, 90, 91, 92, 93, 94, 95, 96] (by decide +kernel) (by decide +kernel)
set_option maxRecDepth 20000 in
theorem gX3_waxWanted_X3_isEnough : GoodIn wsX3_waxWanted (wsV RX3 145 RX3 yX3_isEnough wsX3_isEnough) := goodIn_app (goodIn_of _ (by decide +kernel)) ggX3_waxWanted_X3_isEnough
theorem dX3_waxWanted_0 : decode cX3_waxWanted 0 = .ok (.aload_n 0, 1) := by decide +kernel
theorem dX3_waxWanted_1 : decode cX3_waxWanted 1 = .ok (.iconst 0, 1) := by decide +kernel
theorem dX3_waxWanted_2 : decode cX3_waxWanted 2 = .ok (.putfield 29, 3) := by decide +kernel
theorem dX3_waxWanted_5 : decode cX3_waxWanted 5 = .ok (.iload_n 1, 1) := by decide +kernel
theorem dX3_waxWanted_6 : decode cX3_waxWanted 6 = .ok (.iconst 1, 1) := by decide +kernel
theorem dX3_waxWanted_7 : decode cX3_waxWanted 7 = .ok (.bipush 60, 2) := by decide +kernel
theorem dX3_waxWanted_9 : decode cX3_waxWanted 9 = .ok (.invokestatic 36, 3) := by decide +kernel
theorem dX3_waxWanted_12 : decode cX3_waxWanted 12 = .ok (.ifCond .ne 9, 3) := by decide +kernel
theorem dX3_waxWanted_15 : decode cX3_waxWanted 15 = .ok (.aload_n 0, 1) := by decide +kernel
theorem dX3_waxWanted_16 : decode cX3_waxWanted 16 = .ok (.iconst 1, 1) := by decide +kernel
theorem dX3_waxWanted_17 : decode cX3_waxWanted 17 = .ok (.invokevirtual 95, 3) := by decide +kernel
theorem dX3_waxWanted_20 : decode cX3_waxWanted 20 = .ok (.ireturn, 1) := by decide +kernel
theorem dX3_waxWanted_21 : decode cX3_waxWanted 21 = .ok (.aload_n 0, 1) := by decide +kernel
theorem dX3_waxWanted_22 : decode cX3_waxWanted 22 = .ok (.sipush 500, 3) := by decide +kernel
theorem dX3_waxWanted_25 : decode cX3_waxWanted 25 = .ok (.iload_n 1, 1) := by decide +kernel
theorem dX3_waxWanted_26 : decode cX3_waxWanted 26 = .ok (.invokevirtual 145, 3) := by decide +kernel
theorem dX3_waxWanted_29 : decode cX3_waxWanted 29 = .ok (.ifCond .ne 5, 3) := by decide +kernel
theorem dX3_waxWanted_32 : decode cX3_waxWanted 32 = .ok (.iconst (-1), 1) := by decide +kernel
theorem dX3_waxWanted_33 : decode cX3_waxWanted 33 = .ok (.ireturn, 1) := by decide +kernel
theorem dX3_waxWanted_34 : decode cX3_waxWanted 34 = .ok (.iconst 0, 1) := by decide +kernel
theorem dX3_waxWanted_35 : decode cX3_waxWanted 35 = .ok (.istore_n 2, 1) := by decide +kernel
theorem dX3_waxWanted_36 : decode cX3_waxWanted 36 = .ok (.sipush 500, 3) := by decide +kernel
theorem dX3_waxWanted_39 : decode cX3_waxWanted 39 = .ok (.istore_n 3, 1) := by decide +kernel
theorem dX3_waxWanted_40 : decode cX3_waxWanted 40 = .ok (.iload_n 2, 1) := by decide +kernel
theorem dX3_waxWanted_41 : decode cX3_waxWanted 41 = .ok (.iload_n 3, 1) := by decide +kernel
theorem dX3_waxWanted_42 : decode cX3_waxWanted 42 = .ok (.if_icmp .ge 34, 3) := by decide +kernel
theorem dX3_waxWanted_45 : decode cX3_waxWanted 45 = .ok (.iload_n 2, 1) := by decide +kernel
theorem dX3_waxWanted_46 : decode cX3_waxWanted 46 = .ok (.iload_n 3, 1) := by decide +kernel
theorem dX3_waxWanted_47 : decode cX3_waxWanted 47 = .ok (.iadd, 1) := by decide +kernel
theorem dX3_waxWanted_48 : decode cX3_waxWanted 48 = .ok (.iconst 2, 1) := by decide +kernel
theorem dX3_waxWanted_49 : decode cX3_waxWanted 49 = .ok (.idiv, 1) := by decide +kernel
theorem dX3_waxWanted_50 : decode cX3_waxWanted 50 = .ok (.istore 4, 2) := by decide +kernel
theorem dX3_waxWanted_52 : decode cX3_waxWanted 52 = .ok (.aload_n 0, 1) := by decide +kernel
theorem dX3_waxWanted_53 : decode cX3_waxWanted 53 = .ok (.iload 4, 2) := by decide +kernel
theorem dX3_waxWanted_55 : decode cX3_waxWanted 55 = .ok (.iload_n 1, 1) := by decide +kernel
theorem dX3_waxWanted_56 : decode cX3_waxWanted 56 = .ok (.invokevirtual 145, 3) := by decide +kernel
theorem dX3_waxWanted_59 : decode cX3_waxWanted 59 = .ok (.ifCond .eq 9, 3) := by decide +kernel
theorem dX3_waxWanted_62 : decode cX3_waxWanted 62 = .ok (.iload 4, 2) := by decide +kernel
theorem dX3_waxWanted_64 : decode cX3_waxWanted 64 = .ok (.istore_n 3, 1) := by decide +kernel
theorem dX3_waxWanted_65 : decode cX3_waxWanted 65 = .ok (.goto 8, 3) := by decide +kernel
theorem dX3_waxWanted_68 : decode cX3_waxWanted 68 = .ok (.iload 4, 2) := by decide +kernel
theorem dX3_waxWanted_70 : decode cX3_waxWanted 70 = .ok (.iconst 1, 1) := by decide +kernel
theorem dX3_waxWanted_71 : decode cX3_waxWanted 71 = .ok (.iadd, 1) := by decide +kernel
theorem dX3_waxWanted_72 : decode cX3_waxWanted 72 = .ok (.istore_n 2, 1) := by decide +kernel
theorem dX3_waxWanted_73 : decode cX3_waxWanted 73 = .ok (.goto (-33), 3) := by decide +kernel
theorem dX3_waxWanted_76 : decode cX3_waxWanted 76 = .ok (.iload_n 2, 1) := by decide +kernel
theorem dX3_waxWanted_77 : decode cX3_waxWanted 77 = .ok (.ireturn, 1) := by decide +kernel
theorem dX3_meanTrust_0 : decode cX3_meanTrust 0 = .ok (.aload_n 0, 1) := by decide +kernel
theorem dX3_meanTrust_1 : decode cX3_meanTrust 1 = .ok (.iconst 0, 1) := by decide +kernel
theorem dX3_meanTrust_2 : decode cX3_meanTrust 2 = .ok (.putfield 29, 3) := by decide +kernel
theorem dX3_meanTrust_5 : decode cX3_meanTrust 5 = .ok (.iconst 0, 1) := by decide +kernel
theorem dX3_meanTrust_6 : decode cX3_meanTrust 6 = .ok (.istore_n 1, 1) := by decide +kernel
theorem dX3_meanTrust_7 : decode cX3_meanTrust 7 = .ok (.iconst 0, 1) := by decide +kernel
theorem dX3_meanTrust_8 : decode cX3_meanTrust 8 = .ok (.istore_n 2, 1) := by decide +kernel
theorem dX3_meanTrust_9 : decode cX3_meanTrust 9 = .ok (.iload_n 2, 1) := by decide +kernel
theorem dX3_meanTrust_10 : decode cX3_meanTrust 10 = .ok (.aload_n 0, 1) := by decide +kernel
theorem dX3_meanTrust_11 : decode cX3_meanTrust 11 = .ok (.getfield 43, 3) := by decide +kernel
theorem dX3_meanTrust_14 : decode cX3_meanTrust 14 = .ok (.if_icmp .ge 21, 3) := by decide +kernel
theorem dX3_meanTrust_17 : decode cX3_meanTrust 17 = .ok (.iload_n 1, 1) := by decide +kernel
theorem dX3_meanTrust_18 : decode cX3_meanTrust 18 = .ok (.aload_n 0, 1) := by decide +kernel
theorem dX3_meanTrust_19 : decode cX3_meanTrust 19 = .ok (.getfield 23, 3) := by decide +kernel
theorem dX3_meanTrust_22 : decode cX3_meanTrust 22 = .ok (.bipush 50, 2) := by decide +kernel
theorem dX3_meanTrust_24 : decode cX3_meanTrust 24 = .ok (.iload_n 2, 1) := by decide +kernel
theorem dX3_meanTrust_25 : decode cX3_meanTrust 25 = .ok (.iadd, 1) := by decide +kernel
theorem dX3_meanTrust_26 : decode cX3_meanTrust 26 = .ok (.iaload, 1) := by decide +kernel
theorem dX3_meanTrust_27 : decode cX3_meanTrust 27 = .ok (.iadd, 1) := by decide +kernel
theorem dX3_meanTrust_28 : decode cX3_meanTrust 28 = .ok (.istore_n 1, 1) := by decide +kernel
theorem dX3_meanTrust_29 : decode cX3_meanTrust 29 = .ok (.iinc 2 1, 3) := by decide +kernel
theorem dX3_meanTrust_32 : decode cX3_meanTrust 32 = .ok (.goto (-23), 3) := by decide +kernel
theorem dX3_meanTrust_35 : decode cX3_meanTrust 35 = .ok (.aload_n 0, 1) := by decide +kernel
theorem dX3_meanTrust_36 : decode cX3_meanTrust 36 = .ok (.getfield 43, 3) := by decide +kernel
theorem dX3_meanTrust_39 : decode cX3_meanTrust 39 = .ok (.ifCond .ne 7, 3) := by decide +kernel
theorem dX3_meanTrust_42 : decode cX3_meanTrust 42 = .ok (.dconst 0, 1) := by decide +kernel
theorem dX3_meanTrust_43 : decode cX3_meanTrust 43 = .ok (.goto 11, 3) := by decide +kernel
theorem dX3_meanTrust_46 : decode cX3_meanTrust 46 = .ok (.iload_n 1, 1) := by decide +kernel
theorem dX3_meanTrust_47 : decode cX3_meanTrust 47 = .ok (.i2d, 1) := by decide +kernel
theorem dX3_meanTrust_48 : decode cX3_meanTrust 48 = .ok (.aload_n 0, 1) := by decide +kernel
theorem dX3_meanTrust_49 : decode cX3_meanTrust 49 = .ok (.getfield 43, 3) := by decide +kernel
theorem dX3_meanTrust_52 : decode cX3_meanTrust 52 = .ok (.i2d, 1) := by decide +kernel
theorem dX3_meanTrust_53 : decode cX3_meanTrust 53 = .ok (.ddiv, 1) := by decide +kernel
theorem dX3_meanTrust_54 : decode cX3_meanTrust 54 = .ok (.dreturn, 1) := by decide +kernel
set_option maxRecDepth 20000 in
theorem ggX3_digest_X3_allSightings : GoodIn wsX3_digest wsX3_allSightings := goodIn_r _ [17, 6, 51, 52, 53, 54, 55, 56, 57, 58, 59, 60] (by decide +kernel) (by decide +kernel)
set_option maxRecDepth 20000 in
theorem gX3_digest_X3_allSightings : GoodIn wsX3_digest (wsV RX3 130 RX3 yX3_allSightings wsX3_allSightings) := goodIn_app (goodIn_of _ (by decide +kernel)) ggX3_digest_X3_allSightings
set_option maxRecDepth 20000 in
theorem ggX3_digest_X3_allDark : GoodIn wsX3_digest wsX3_allDark := goodIn_r _ [21, 4, 22, 23, 24, 16, 25, 10, 6, 26, 27, 28, 29, 30, 31, 32, 33, 34, 35, 51, 52, 53, 54, 55, 56, 57, 58, 59, 60] (by decide +kernel) (by decide +kernel)
set_option maxRecDepth 20000 in
theorem gX3_digest_X3_allDark : GoodIn wsX3_digest (wsV RX3 133 RX3 yX3_allDark wsX3_allDark) := goodIn_app (goodIn_of _ (by decide +kernel)) ggX3_digest_X3_allDark
set_option maxRecDepth 20000 in
theorem ggX3_digest_X3_onWall : GoodIn wsX3_digest wsX3_onWall := goodIn_r _ [39, 4, 6, 10, 30, 31, 16, 32, 51, 52, 53, 54, 55, 56, 57, 58, 59, 60] (by decide +kernel) (by decide +kernel)
set_option maxRecDepth 20000 in
theorem gX3_digest_X3_onWall : GoodIn wsX3_digest (wsV RX3 136 RX3 yX3_onWall wsX3_onWall) := goodIn_app (goodIn_of _ (by decide +kernel)) ggX3_digest_X3_onWall
set_option maxRecDepth 20000 in
theorem ggX3_digest_X3_ship : GoodIn wsX3_digest wsX3_ship := goodIn_r _ [32] (by decide +kernel) (by decide +kernel)
set_option maxRecDepth 20000 in
theorem gX3_digest_X3_ship : GoodIn wsX3_digest (va_wsS RX3 46 yX3_ship wsX3_ship) := goodIn_app (goodIn_of _ (by decide +kernel)) ggX3_digest_X3_ship
set_option maxRecDepth 20000 in
theorem ggX3_digest_X3_trust : GoodIn wsX3_digest wsX3_trust := goodIn_r _ [43, 5, 6, 44, 45, 16, 46, 51, 52, 53, 54, 55, 56, 57, 58, 59, 60] (by decide +kernel) (by decide +kernel)
set_option maxRecDepth 20000 in
theorem gX3_digest_X3_trust : GoodIn wsX3_digest (wsV RX3 81 RX3 yX3_trust wsX3_trust) := goodIn_app (goodIn_of _ (by decide +kernel)) ggX3_digest_X3_trust
set_option maxRecDepth 20000 in
theorem ggX3_digest_X3_voters : GoodIn wsX3_digest wsX3_voters := goodIn_r _ [50, 4, 10, 12, 6, 33, 34, 16, 35, 51, 52, 53, 54, 55, 56, 57, 58, 59, 60] (by decide +kernel) (by decide +kernel)
set_option maxRecDepth 20000 in
theorem gX3_digest_X3_voters : GoodIn wsX3_digest (wsV RX3 87 RX3 yX3_voters wsX3_voters) := goodIn_app (goodIn_of _ (by decide +kernel)) ggX3_digest_X3_voters
set_option maxRecDepth 20000 in
theorem ggX3_digest_X3_sailor : GoodIn wsX3_digest wsX3_sailor := goodIn_r _ [35] (by decide +kernel) (by decide +kernel)
set_option maxRecDepth 20000 in
theorem gX3_digest_X3_sailor : GoodIn wsX3_digest (va_wsS RX3 59 yX3_sailor wsX3_sailor) := goodIn_app (goodIn_of _ (by decide +kernel)) ggX3_digest_X3_sailor
theorem dX3_digest_0 : decode cX3_digest 0 = .ok (.aload_n 0, 1) := by decide +kernel
theorem dX3_digest_1 : decode cX3_digest 1 = .ok (.iconst 0, 1) := by decide +kernel
theorem dX3_digest_2 : decode cX3_digest 2 = .ok (.putfield 29, 3) := by decide +kernel
theorem dX3_digest_5 : decode cX3_digest 5 = .ok (.bipush 9, 2) := by decide +kernel
theorem dX3_digest_7 : decode cX3_digest 7 = .ok (.newarray .int, 2) := by decide +kernel
theorem dX3_digest_9 : decode cX3_digest 9 = .ok (.dup, 1) := by decide +kernel
theorem dX3_digest_10 : decode cX3_digest 10 = .ok (.iconst 0, 1) := by decide +kernel
theorem dX3_digest_11 : decode cX3_digest 11 = .ok (.aload_n 0, 1) := by decide +kernel
theorem dX3_digest_12 : decode cX3_digest 12 = .ok (.getfield 33, 3) := by decide +kernel
theorem dX3_digest_15 : decode cX3_digest 15 = .ok (.iastore, 1) := by decide +kernel
theorem dX3_digest_16 : decode cX3_digest 16 = .ok (.dup, 1) := by decide +kernel
theorem dX3_digest_17 : decode cX3_digest 17 = .ok (.iconst 1, 1) := by decide +kernel
theorem dX3_digest_18 : decode cX3_digest 18 = .ok (.aload_n 0, 1) := by decide +kernel
theorem dX3_digest_19 : decode cX3_digest 19 = .ok (.getfield 40, 3) := by decide +kernel
theorem dX3_digest_22 : decode cX3_digest 22 = .ok (.iastore, 1) := by decide +kernel
theorem dX3_digest_23 : decode cX3_digest 23 = .ok (.dup, 1) := by decide +kernel
theorem dX3_digest_24 : decode cX3_digest 24 = .ok (.iconst 2, 1) := by decide +kernel
theorem dX3_digest_25 : decode cX3_digest 25 = .ok (.aload_n 0, 1) := by decide +kernel
theorem dX3_digest_26 : decode cX3_digest 26 = .ok (.getfield 43, 3) := by decide +kernel
theorem dX3_digest_29 : decode cX3_digest 29 = .ok (.iastore, 1) := by decide +kernel
theorem dX3_digest_30 : decode cX3_digest 30 = .ok (.dup, 1) := by decide +kernel
theorem dX3_digest_31 : decode cX3_digest 31 = .ok (.iconst 3, 1) := by decide +kernel
theorem dX3_digest_32 : decode cX3_digest 32 = .ok (.aload_n 0, 1) := by decide +kernel
theorem dX3_digest_33 : decode cX3_digest 33 = .ok (.invokevirtual 130, 3) := by decide +kernel
theorem dX3_digest_36 : decode cX3_digest 36 = .ok (.iastore, 1) := by decide +kernel
theorem dX3_digest_37 : decode cX3_digest 37 = .ok (.dup, 1) := by decide +kernel
theorem dX3_digest_38 : decode cX3_digest 38 = .ok (.iconst 4, 1) := by decide +kernel
theorem dX3_digest_39 : decode cX3_digest 39 = .ok (.aload_n 0, 1) := by decide +kernel
theorem dX3_digest_40 : decode cX3_digest 40 = .ok (.getfield 23, 3) := by decide +kernel
theorem dX3_digest_43 : decode cX3_digest 43 = .ok (.iconst 0, 1) := by decide +kernel
theorem dX3_digest_44 : decode cX3_digest 44 = .ok (.iaload, 1) := by decide +kernel
theorem dX3_digest_45 : decode cX3_digest 45 = .ok (.iastore, 1) := by decide +kernel
theorem dX3_digest_46 : decode cX3_digest 46 = .ok (.dup, 1) := by decide +kernel
theorem dX3_digest_47 : decode cX3_digest 47 = .ok (.iconst 5, 1) := by decide +kernel
theorem dX3_digest_48 : decode cX3_digest 48 = .ok (.aload_n 0, 1) := by decide +kernel
theorem dX3_digest_49 : decode cX3_digest 49 = .ok (.getfield 23, 3) := by decide +kernel
theorem dX3_digest_52 : decode cX3_digest 52 = .ok (.iconst 1, 1) := by decide +kernel
theorem dX3_digest_53 : decode cX3_digest 53 = .ok (.iaload, 1) := by decide +kernel
theorem dX3_digest_54 : decode cX3_digest 54 = .ok (.iastore, 1) := by decide +kernel
theorem dX3_digest_55 : decode cX3_digest 55 = .ok (.dup, 1) := by decide +kernel
theorem dX3_digest_56 : decode cX3_digest 56 = .ok (.bipush 6, 2) := by decide +kernel
theorem dX3_digest_58 : decode cX3_digest 58 = .ok (.aload_n 0, 1) := by decide +kernel
theorem dX3_digest_59 : decode cX3_digest 59 = .ok (.invokevirtual 133, 3) := by decide +kernel
theorem dX3_digest_62 : decode cX3_digest 62 = .ok (.iastore, 1) := by decide +kernel
theorem dX3_digest_63 : decode cX3_digest 63 = .ok (.dup, 1) := by decide +kernel
theorem dX3_digest_64 : decode cX3_digest 64 = .ok (.bipush 7, 2) := by decide +kernel
theorem dX3_digest_66 : decode cX3_digest 66 = .ok (.aload_n 0, 1) := by decide +kernel
theorem dX3_digest_67 : decode cX3_digest 67 = .ok (.getfield 23, 3) := by decide +kernel
theorem dX3_digest_70 : decode cX3_digest 70 = .ok (.iconst 2, 1) := by decide +kernel
theorem dX3_digest_71 : decode cX3_digest 71 = .ok (.iaload, 1) := by decide +kernel
theorem dX3_digest_72 : decode cX3_digest 72 = .ok (.iastore, 1) := by decide +kernel
theorem dX3_digest_73 : decode cX3_digest 73 = .ok (.dup, 1) := by decide +kernel
theorem dX3_digest_74 : decode cX3_digest 74 = .ok (.bipush 8, 2) := by decide +kernel
theorem dX3_digest_76 : decode cX3_digest 76 = .ok (.aload_n 0, 1) := by decide +kernel
theorem dX3_digest_77 : decode cX3_digest 77 = .ok (.invokevirtual 136, 3) := by decide +kernel
theorem dX3_digest_80 : decode cX3_digest 80 = .ok (.iastore, 1) := by decide +kernel
theorem dX3_digest_81 : decode cX3_digest 81 = .ok (.astore_n 1, 1) := by decide +kernel
theorem dX3_digest_82 : decode cX3_digest 82 = .ok (.ldc2_w 148, 3) := by decide +kernel
theorem dX3_digest_85 : decode cX3_digest 85 = .ok (.lstore_n 2, 1) := by decide +kernel
theorem dX3_digest_86 : decode cX3_digest 86 = .ok (.aload_n 1, 1) := by decide +kernel
theorem dX3_digest_87 : decode cX3_digest 87 = .ok (.astore 4, 2) := by decide +kernel
theorem dX3_digest_89 : decode cX3_digest 89 = .ok (.aload 4, 2) := by decide +kernel
theorem dX3_digest_91 : decode cX3_digest 91 = .ok (.arraylength, 1) := by decide +kernel
theorem dX3_digest_92 : decode cX3_digest 92 = .ok (.istore 5, 2) := by decide +kernel
theorem dX3_digest_94 : decode cX3_digest 94 = .ok (.iconst 0, 1) := by decide +kernel
theorem dX3_digest_95 : decode cX3_digest 95 = .ok (.istore 6, 2) := by decide +kernel
theorem dX3_digest_97 : decode cX3_digest 97 = .ok (.iload 6, 2) := by decide +kernel
theorem dX3_digest_99 : decode cX3_digest 99 = .ok (.iload 5, 2) := by decide +kernel
theorem dX3_digest_101 : decode cX3_digest 101 = .ok (.if_icmp .ge 26, 3) := by decide +kernel
theorem dX3_digest_104 : decode cX3_digest 104 = .ok (.aload 4, 2) := by decide +kernel
theorem dX3_digest_106 : decode cX3_digest 106 = .ok (.iload 6, 2) := by decide +kernel
theorem dX3_digest_108 : decode cX3_digest 108 = .ok (.iaload, 1) := by decide +kernel
theorem dX3_digest_109 : decode cX3_digest 109 = .ok (.istore 7, 2) := by decide +kernel
theorem dX3_digest_111 : decode cX3_digest 111 = .ok (.lload_n 2, 1) := by decide +kernel
theorem dX3_digest_112 : decode cX3_digest 112 = .ok (.ldc2_w 150, 3) := by decide +kernel
theorem dX3_digest_115 : decode cX3_digest 115 = .ok (.lmul, 1) := by decide +kernel
theorem dX3_digest_116 : decode cX3_digest 116 = .ok (.iload 7, 2) := by decide +kernel
theorem dX3_digest_118 : decode cX3_digest 118 = .ok (.i2l, 1) := by decide +kernel
theorem dX3_digest_119 : decode cX3_digest 119 = .ok (.ladd, 1) := by decide +kernel
theorem dX3_digest_120 : decode cX3_digest 120 = .ok (.lstore_n 2, 1) := by decide +kernel
theorem dX3_digest_121 : decode cX3_digest 121 = .ok (.iinc 6 1, 3) := by decide +kernel
theorem dX3_digest_124 : decode cX3_digest 124 = .ok (.goto (-27), 3) := by decide +kernel
theorem dX3_digest_127 : decode cX3_digest 127 = .ok (.iconst 0, 1) := by decide +kernel
theorem dX3_digest_128 : decode cX3_digest 128 = .ok (.istore 4, 2) := by decide +kernel
theorem dX3_digest_130 : decode cX3_digest 130 = .ok (.iload 4, 2) := by decide +kernel
theorem dX3_digest_132 : decode cX3_digest 132 = .ok (.aload_n 0, 1) := by decide +kernel
theorem dX3_digest_133 : decode cX3_digest 133 = .ok (.getfield 33, 3) := by decide +kernel
theorem dX3_digest_136 : decode cX3_digest 136 = .ok (.if_icmp .ge 166, 3) := by decide +kernel
theorem dX3_digest_139 : decode cX3_digest 139 = .ok (.aload_n 0, 1) := by decide +kernel
theorem dX3_digest_140 : decode cX3_digest 140 = .ok (.getfield 23, 3) := by decide +kernel
theorem dX3_digest_143 : decode cX3_digest 143 = .ok (.iload 4, 2) := by decide +kernel
theorem dX3_digest_145 : decode cX3_digest 145 = .ok (.iconst 0, 1) := by decide +kernel
theorem dX3_digest_146 : decode cX3_digest 146 = .ok (.invokestatic 46, 3) := by decide +kernel
theorem dX3_digest_149 : decode cX3_digest 149 = .ok (.iaload, 1) := by decide +kernel
theorem dX3_digest_150 : decode cX3_digest 150 = .ok (.istore 5, 2) := by decide +kernel
theorem dX3_digest_152 : decode cX3_digest 152 = .ok (.bipush 8, 2) := by decide +kernel
theorem dX3_digest_154 : decode cX3_digest 154 = .ok (.newarray .int, 2) := by decide +kernel
theorem dX3_digest_156 : decode cX3_digest 156 = .ok (.dup, 1) := by decide +kernel
theorem dX3_digest_157 : decode cX3_digest 157 = .ok (.iconst 0, 1) := by decide +kernel
theorem dX3_digest_158 : decode cX3_digest 158 = .ok (.aload_n 0, 1) := by decide +kernel
theorem dX3_digest_159 : decode cX3_digest 159 = .ok (.getfield 9, 3) := by decide +kernel
theorem dX3_digest_162 : decode cX3_digest 162 = .ok (.iload 4, 2) := by decide +kernel
theorem dX3_digest_164 : decode cX3_digest 164 = .ok (.iaload, 1) := by decide +kernel
theorem dX3_digest_165 : decode cX3_digest 165 = .ok (.iastore, 1) := by decide +kernel
theorem dX3_digest_166 : decode cX3_digest 166 = .ok (.dup, 1) := by decide +kernel
theorem dX3_digest_167 : decode cX3_digest 167 = .ok (.iconst 1, 1) := by decide +kernel
theorem dX3_digest_168 : decode cX3_digest 168 = .ok (.iload 5, 2) := by decide +kernel
theorem dX3_digest_170 : decode cX3_digest 170 = .ok (.ifCond .ne 7, 3) := by decide +kernel
theorem dX3_digest_173 : decode cX3_digest 173 = .ok (.iconst 0, 1) := by decide +kernel
theorem dX3_digest_174 : decode cX3_digest 174 = .ok (.goto 4, 3) := by decide +kernel
theorem dX3_digest_177 : decode cX3_digest 177 = .ok (.iconst 1, 1) := by decide +kernel
theorem dX3_digest_178 : decode cX3_digest 178 = .ok (.iastore, 1) := by decide +kernel
theorem dX3_digest_179 : decode cX3_digest 179 = .ok (.dup, 1) := by decide +kernel
theorem dX3_digest_180 : decode cX3_digest 180 = .ok (.iconst 2, 1) := by decide +kernel
theorem dX3_digest_181 : decode cX3_digest 181 = .ok (.iload 5, 2) := by decide +kernel
theorem dX3_digest_183 : decode cX3_digest 183 = .ok (.iconst 2, 1) := by decide +kernel
