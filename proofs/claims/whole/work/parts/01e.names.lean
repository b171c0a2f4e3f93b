theorem dX5_changeTickets_53 : decode cX5_changeTickets 53 = .ok (.getfield 7, 3) := by decide +kernel
theorem dX5_changeTickets_56 : decode cX5_changeTickets 56 = .ok (.bipush 50, 2) := by decide +kernel
theorem dX5_changeTickets_58 : decode cX5_changeTickets 58 = .ok (.dup2, 1) := by decide +kernel
theorem dX5_changeTickets_59 : decode cX5_changeTickets 59 = .ok (.iaload, 1) := by decide +kernel
theorem dX5_changeTickets_60 : decode cX5_changeTickets 60 = .ok (.iconst 1, 1) := by decide +kernel
theorem dX5_changeTickets_61 : decode cX5_changeTickets 61 = .ok (.iadd, 1) := by decide +kernel
theorem dX5_changeTickets_62 : decode cX5_changeTickets 62 = .ok (.iastore, 1) := by decide +kernel
theorem dX5_changeTickets_63 : decode cX5_changeTickets 63 = .ok (.aload_n 0, 1) := by decide +kernel
theorem dX5_changeTickets_64 : decode cX5_changeTickets 64 = .ok (.getfield 7, 3) := by decide +kernel
theorem dX5_changeTickets_67 : decode cX5_changeTickets 67 = .ok (.iconst 0, 1) := by decide +kernel
theorem dX5_changeTickets_68 : decode cX5_changeTickets 68 = .ok (.iload_n 1, 1) := by decide +kernel
theorem dX5_changeTickets_69 : decode cX5_changeTickets 69 = .ok (.iadd, 1) := by decide +kernel
theorem dX5_changeTickets_70 : decode cX5_changeTickets 70 = .ok (.iconst 3, 1) := by decide +kernel
theorem dX5_changeTickets_71 : decode cX5_changeTickets 71 = .ok (.iastore, 1) := by decide +kernel
theorem dX5_changeTickets_72 : decode cX5_changeTickets 72 = .ok (.goto 45, 3) := by decide +kernel
theorem dX5_changeTickets_75 : decode cX5_changeTickets 75 = .ok (.aload_n 0, 1) := by decide +kernel
theorem dX5_changeTickets_76 : decode cX5_changeTickets 76 = .ok (.getfield 7, 3) := by decide +kernel
theorem dX5_changeTickets_79 : decode cX5_changeTickets 79 = .ok (.iconst 0, 1) := by decide +kernel
theorem dX5_changeTickets_80 : decode cX5_changeTickets 80 = .ok (.iload_n 1, 1) := by decide +kernel
theorem dX5_changeTickets_81 : decode cX5_changeTickets 81 = .ok (.iadd, 1) := by decide +kernel
theorem dX5_changeTickets_82 : decode cX5_changeTickets 82 = .ok (.iconst 4, 1) := by decide +kernel
theorem dX5_changeTickets_83 : decode cX5_changeTickets 83 = .ok (.iastore, 1) := by decide +kernel
theorem dX5_changeTickets_84 : decode cX5_changeTickets 84 = .ok (.goto 33, 3) := by decide +kernel
theorem dX5_changeTickets_87 : decode cX5_changeTickets 87 = .ok (.aload_n 0, 1) := by decide +kernel
theorem dX5_changeTickets_88 : decode cX5_changeTickets 88 = .ok (.getfield 7, 3) := by decide +kernel
theorem dX5_changeTickets_91 : decode cX5_changeTickets 91 = .ok (.bipush 51, 2) := by decide +kernel
theorem dX5_changeTickets_93 : decode cX5_changeTickets 93 = .ok (.dup2, 1) := by decide +kernel
theorem dX5_changeTickets_94 : decode cX5_changeTickets 94 = .ok (.iaload, 1) := by decide +kernel
theorem dX5_changeTickets_95 : decode cX5_changeTickets 95 = .ok (.iconst 1, 1) := by decide +kernel
theorem dX5_changeTickets_96 : decode cX5_changeTickets 96 = .ok (.iadd, 1) := by decide +kernel
theorem dX5_changeTickets_97 : decode cX5_changeTickets 97 = .ok (.iastore, 1) := by decide +kernel
theorem dX5_changeTickets_98 : decode cX5_changeTickets 98 = .ok (.aload_n 0, 1) := by decide +kernel
theorem dX5_changeTickets_99 : decode cX5_changeTickets 99 = .ok (.getfield 7, 3) := by decide +kernel
theorem dX5_changeTickets_102 : decode cX5_changeTickets 102 = .ok (.bipush 36, 2) := by decide +kernel
theorem dX5_changeTickets_104 : decode cX5_changeTickets 104 = .ok (.iload_n 1, 1) := by decide +kernel
theorem dX5_changeTickets_105 : decode cX5_changeTickets 105 = .ok (.iadd, 1) := by decide +kernel
theorem dX5_changeTickets_106 : decode cX5_changeTickets 106 = .ok (.iconst (-1), 1) := by decide +kernel
theorem dX5_changeTickets_107 : decode cX5_changeTickets 107 = .ok (.iastore, 1) := by decide +kernel
theorem dX5_changeTickets_108 : decode cX5_changeTickets 108 = .ok (.aload_n 0, 1) := by decide +kernel
theorem dX5_changeTickets_109 : decode cX5_changeTickets 109 = .ok (.getfield 7, 3) := by decide +kernel
theorem dX5_changeTickets_112 : decode cX5_changeTickets 112 = .ok (.iconst 0, 1) := by decide +kernel
theorem dX5_changeTickets_113 : decode cX5_changeTickets 113 = .ok (.iload_n 1, 1) := by decide +kernel
theorem dX5_changeTickets_114 : decode cX5_changeTickets 114 = .ok (.iadd, 1) := by decide +kernel
theorem dX5_changeTickets_115 : decode cX5_changeTickets 115 = .ok (.iconst 0, 1) := by decide +kernel
theorem dX5_changeTickets_116 : decode cX5_changeTickets 116 = .ok (.iastore, 1) := by decide +kernel
theorem dX5_changeTickets_117 : decode cX5_changeTickets 117 = .ok (.return_, 1) := by decide +kernel
theorem dX5_changeGrabbing_0 : decode cX5_changeGrabbing 0 = .ok (.aload_n 0, 1) := by decide +kernel
theorem dX5_changeGrabbing_1 : decode cX5_changeGrabbing 1 = .ok (.getfield 7, 3) := by decide +kernel
theorem dX5_changeGrabbing_4 : decode cX5_changeGrabbing 4 = .ok (.iconst 0, 1) := by decide +kernel
theorem dX5_changeGrabbing_5 : decode cX5_changeGrabbing 5 = .ok (.iload_n 1, 1) := by decide +kernel
theorem dX5_changeGrabbing_6 : decode cX5_changeGrabbing 6 = .ok (.iadd, 1) := by decide +kernel
theorem dX5_changeGrabbing_7 : decode cX5_changeGrabbing 7 = .ok (.iaload, 1) := by decide +kernel
theorem dX5_changeGrabbing_8 : decode cX5_changeGrabbing 8 = .ok (.istore_n 2, 1) := by decide +kernel
theorem dX5_changeGrabbing_9 : decode cX5_changeGrabbing 9 = .ok (.aload_n 0, 1) := by decide +kernel
theorem dX5_changeGrabbing_10 : decode cX5_changeGrabbing 10 = .ok (.getfield 7, 3) := by decide +kernel
theorem dX5_changeGrabbing_13 : decode cX5_changeGrabbing 13 = .ok (.bipush 52, 2) := by decide +kernel
theorem dX5_changeGrabbing_15 : decode cX5_changeGrabbing 15 = .ok (.iload_n 2, 1) := by decide +kernel
theorem dX5_changeGrabbing_16 : decode cX5_changeGrabbing 16 = .ok (.ifCond .ne 13, 3) := by decide +kernel
theorem dX5_changeGrabbing_19 : decode cX5_changeGrabbing 19 = .ok (.aload_n 0, 1) := by decide +kernel
theorem dX5_changeGrabbing_20 : decode cX5_changeGrabbing 20 = .ok (.getfield 7, 3) := by decide +kernel
theorem dX5_changeGrabbing_23 : decode cX5_changeGrabbing 23 = .ok (.bipush 52, 2) := by decide +kernel
theorem dX5_changeGrabbing_25 : decode cX5_changeGrabbing 25 = .ok (.iaload, 1) := by decide +kernel
theorem dX5_changeGrabbing_26 : decode cX5_changeGrabbing 26 = .ok (.goto 13, 3) := by decide +kernel
theorem dX5_changeGrabbing_29 : decode cX5_changeGrabbing 29 = .ok (.iload_n 2, 1) := by decide +kernel
theorem dX5_changeGrabbing_30 : decode cX5_changeGrabbing 30 = .ok (.iconst 3, 1) := by decide +kernel
theorem dX5_changeGrabbing_31 : decode cX5_changeGrabbing 31 = .ok (.if_icmp .ne 7, 3) := by decide +kernel
theorem dX5_changeGrabbing_34 : decode cX5_changeGrabbing 34 = .ok (.iconst 1, 1) := by decide +kernel
theorem dX5_changeGrabbing_35 : decode cX5_changeGrabbing 35 = .ok (.goto 4, 3) := by decide +kernel
theorem dX5_changeGrabbing_38 : decode cX5_changeGrabbing 38 = .ok (.iconst 0, 1) := by decide +kernel
theorem dX5_changeGrabbing_39 : decode cX5_changeGrabbing 39 = .ok (.iastore, 1) := by decide +kernel
theorem dX5_changeGrabbing_40 : decode cX5_changeGrabbing 40 = .ok (.aload_n 0, 1) := by decide +kernel
theorem dX5_changeGrabbing_41 : decode cX5_changeGrabbing 41 = .ok (.getfield 7, 3) := by decide +kernel
theorem dX5_changeGrabbing_44 : decode cX5_changeGrabbing 44 = .ok (.iconst 0, 1) := by decide +kernel
theorem dX5_changeGrabbing_45 : decode cX5_changeGrabbing 45 = .ok (.iload_n 1, 1) := by decide +kernel
theorem dX5_changeGrabbing_46 : decode cX5_changeGrabbing 46 = .ok (.iadd, 1) := by decide +kernel
theorem dX5_changeGrabbing_47 : decode cX5_changeGrabbing 47 = .ok (.iload_n 2, 1) := by decide +kernel
theorem dX5_changeGrabbing_48 : decode cX5_changeGrabbing 48 = .ok (.ifCond .ne 7, 3) := by decide +kernel
theorem dX5_changeGrabbing_51 : decode cX5_changeGrabbing 51 = .ok (.iconst 3, 1) := by decide +kernel
theorem dX5_changeGrabbing_52 : decode cX5_changeGrabbing 52 = .ok (.goto 13, 3) := by decide +kernel
theorem dX5_changeGrabbing_55 : decode cX5_changeGrabbing 55 = .ok (.iload_n 2, 1) := by decide +kernel
theorem dX5_changeGrabbing_56 : decode cX5_changeGrabbing 56 = .ok (.iconst 3, 1) := by decide +kernel
theorem dX5_changeGrabbing_57 : decode cX5_changeGrabbing 57 = .ok (.if_icmp .ne 7, 3) := by decide +kernel
theorem dX5_changeGrabbing_60 : decode cX5_changeGrabbing 60 = .ok (.iconst 4, 1) := by decide +kernel
theorem dX5_changeGrabbing_61 : decode cX5_changeGrabbing 61 = .ok (.goto 4, 3) := by decide +kernel
theorem dX5_changeGrabbing_64 : decode cX5_changeGrabbing 64 = .ok (.iconst 0, 1) := by decide +kernel
theorem dX5_changeGrabbing_65 : decode cX5_changeGrabbing 65 = .ok (.iastore, 1) := by decide +kernel
theorem dX5_changeGrabbing_66 : decode cX5_changeGrabbing 66 = .ok (.return_, 1) := by decide +kernel
set_option maxRecDepth 20000 in
theorem ggX5_change_X5_changeNudges : GoodIn wsX5_change wsX5_changeNudges := goodIn_r _ [6, 1, 19, 20, 21, 22, 23, 24, 25, 26, 27, 28, 29, 30, 31, 32, 33, 34, 35, 36] (by decide +kernel) (by decide +kernel)
set_option maxRecDepth 20000 in
theorem gX5_change_X5_changeNudges : GoodIn wsX5_change (wsV RX5 70 RX5 yX5_changeNudges wsX5_changeNudges) := goodIn_app (goodIn_of _ (by decide +kernel)) ggX5_change_X5_changeNudges
set_option maxRecDepth 20000 in
theorem ggX5_change_X5_changeWatching : GoodIn wsX5_change wsX5_changeWatching := goodIn_r _ [10, 1, 19, 20, 21, 22, 23, 24, 25, 26, 27, 28, 29, 30, 31, 32, 33, 34, 35, 36] (by decide +kernel) (by decide +kernel)
set_option maxRecDepth 20000 in
theorem gX5_change_X5_changeWatching : GoodIn wsX5_change (wsV RX5 73 RX5 yX5_changeWatching wsX5_changeWatching) := goodIn_app (goodIn_of _ (by decide +kernel)) ggX5_change_X5_changeWatching
set_option maxRecDepth 20000 in
theorem ggX5_change_X5_changeTickets : GoodIn wsX5_change wsX5_changeTickets := goodIn_r _ [14, 1, 19, 20, 21, 22, 23, 24, 25, 26, 27, 28, 29, 30, 31, 32, 33, 34, 35, 36] (by decide +kernel) (by decide +kernel)
set_option maxRecDepth 20000 in
theorem gX5_change_X5_changeTickets : GoodIn wsX5_change (wsV RX5 76 RX5 yX5_changeTickets wsX5_changeTickets) := goodIn_app (goodIn_of _ (by decide +kernel)) ggX5_change_X5_changeTickets
set_option maxRecDepth 20000 in
theorem ggX5_change_X5_changeGrabbing : GoodIn wsX5_change wsX5_changeGrabbing := goodIn_r _ [18, 1, 19, 20, 21, 22, 23, 24, 25, 26, 27, 28, 29, 30, 31, 32, 33, 34, 35, 36] (by decide +kernel) (by decide +kernel)
set_option maxRecDepth 20000 in
theorem gX5_change_X5_changeGrabbing : GoodIn wsX5_change (wsV RX5 79 RX5 yX5_changeGrabbing wsX5_changeGrabbing) := goodIn_app (goodIn_of _ (by decide +kernel)) ggX5_change_X5_changeGrabbing
theorem dX5_change_0 : decode cX5_change 0 = .ok (.aload_n 0, 1) := by decide +kernel
theorem dX5_change_1 : decode cX5_change 1 = .ok (.getfield 7, 3) := by decide +kernel
theorem dX5_change_4 : decode cX5_change 4 = .ok (.bipush 60, 2) := by decide +kernel
theorem dX5_change_6 : decode cX5_change 6 = .ok (.iaload, 1) := by decide +kernel
theorem dX5_change_7 : decode cX5_change 7 = .ok (.tableswitch 49 0 2 #[25, 33, 41], 25) := by decide +kernel
theorem dX5_change_32 : decode cX5_change 32 = .ok (.aload_n 0, 1) := by decide +kernel
theorem dX5_change_33 : decode cX5_change 33 = .ok (.iload_n 1, 1) := by decide +kernel
theorem dX5_change_34 : decode cX5_change 34 = .ok (.invokevirtual 70, 3) := by decide +kernel
theorem dX5_change_37 : decode cX5_change 37 = .ok (.goto 24, 3) := by decide +kernel
theorem dX5_change_40 : decode cX5_change 40 = .ok (.aload_n 0, 1) := by decide +kernel
theorem dX5_change_41 : decode cX5_change 41 = .ok (.iload_n 1, 1) := by decide +kernel
theorem dX5_change_42 : decode cX5_change 42 = .ok (.invokevirtual 73, 3) := by decide +kernel
theorem dX5_change_45 : decode cX5_change 45 = .ok (.goto 16, 3) := by decide +kernel
theorem dX5_change_48 : decode cX5_change 48 = .ok (.aload_n 0, 1) := by decide +kernel
theorem dX5_change_49 : decode cX5_change 49 = .ok (.iload_n 1, 1) := by decide +kernel
theorem dX5_change_50 : decode cX5_change 50 = .ok (.invokevirtual 76, 3) := by decide +kernel
theorem dX5_change_53 : decode cX5_change 53 = .ok (.goto 8, 3) := by decide +kernel
theorem dX5_change_56 : decode cX5_change 56 = .ok (.aload_n 0, 1) := by decide +kernel
theorem dX5_change_57 : decode cX5_change 57 = .ok (.iload_n 1, 1) := by decide +kernel
theorem dX5_change_58 : decode cX5_change 58 = .ok (.invokevirtual 79, 3) := by decide +kernel
theorem dX5_change_61 : decode cX5_change 61 = .ok (.return_, 1) := by decide +kernel
theorem dX5_placeOf_0 : decode cX5_placeOf 0 = .ok (.bipush (-5), 2) := by decide +kernel
theorem dX5_placeOf_2 : decode cX5_placeOf 2 = .ok (.istore_n 2, 1) := by decide +kernel
theorem dX5_placeOf_3 : decode cX5_placeOf 3 = .ok (.iconst 0, 1) := by decide +kernel
theorem dX5_placeOf_4 : decode cX5_placeOf 4 = .ok (.istore_n 3, 1) := by decide +kernel
theorem dX5_placeOf_5 : decode cX5_placeOf 5 = .ok (.iload_n 3, 1) := by decide +kernel
theorem dX5_placeOf_6 : decode cX5_placeOf 6 = .ok (.aload_n 0, 1) := by decide +kernel
theorem dX5_placeOf_7 : decode cX5_placeOf 7 = .ok (.getfield 7, 3) := by decide +kernel
theorem dX5_placeOf_10 : decode cX5_placeOf 10 = .ok (.bipush 53, 2) := by decide +kernel
theorem dX5_placeOf_12 : decode cX5_placeOf 12 = .ok (.iaload, 1) := by decide +kernel
theorem dX5_placeOf_13 : decode cX5_placeOf 13 = .ok (.if_icmp .ge 28, 3) := by decide +kernel
theorem dX5_placeOf_16 : decode cX5_placeOf 16 = .ok (.aload_n 0, 1) := by decide +kernel
theorem dX5_placeOf_17 : decode cX5_placeOf 17 = .ok (.getfield 7, 3) := by decide +kernel
theorem dX5_placeOf_20 : decode cX5_placeOf 20 = .ok (.bipush 54, 2) := by decide +kernel
theorem dX5_placeOf_22 : decode cX5_placeOf 22 = .ok (.iload_n 3, 1) := by decide +kernel
theorem dX5_placeOf_23 : decode cX5_placeOf 23 = .ok (.iadd, 1) := by decide +kernel
theorem dX5_placeOf_24 : decode cX5_placeOf 24 = .ok (.iaload, 1) := by decide +kernel
theorem dX5_placeOf_25 : decode cX5_placeOf 25 = .ok (.iload_n 1, 1) := by decide +kernel
theorem dX5_placeOf_26 : decode cX5_placeOf 26 = .ok (.if_icmp .ne 7, 3) := by decide +kernel
theorem dX5_placeOf_29 : decode cX5_placeOf 29 = .ok (.iload_n 3, 1) := by decide +kernel
theorem dX5_placeOf_30 : decode cX5_placeOf 30 = .ok (.goto 4, 3) := by decide +kernel
theorem dX5_placeOf_33 : decode cX5_placeOf 33 = .ok (.iload_n 2, 1) := by decide +kernel
theorem dX5_placeOf_34 : decode cX5_placeOf 34 = .ok (.istore_n 2, 1) := by decide +kernel
theorem dX5_placeOf_35 : decode cX5_placeOf 35 = .ok (.iinc 3 1, 3) := by decide +kernel
theorem dX5_placeOf_38 : decode cX5_placeOf 38 = .ok (.goto (-33), 3) := by decide +kernel
theorem dX5_placeOf_41 : decode cX5_placeOf 41 = .ok (.iload_n 2, 1) := by decide +kernel
theorem dX5_placeOf_42 : decode cX5_placeOf 42 = .ok (.ireturn, 1) := by decide +kernel
set_option maxRecDepth 20000 in
theorem ggX5_leaveLine_X5_placeOf : GoodIn wsX5_leaveLine wsX5_placeOf := goodIn_r _ [6, 1, 7, 8, 9, 10, 11, 12, 13, 14, 15, 16, 17, 18, 19, 20, 21, 22, 23, 24] (by decide +kernel) (by decide +kernel)
set_option maxRecDepth 20000 in
theorem gX5_leaveLine_X5_placeOf : GoodIn wsX5_leaveLine (wsV RX5 82 RX5 yX5_placeOf wsX5_placeOf) := goodIn_app (goodIn_of _ (by decide +kernel)) ggX5_leaveLine_X5_placeOf
theorem dX5_leaveLine_0 : decode cX5_leaveLine 0 = .ok (.aload_n 0, 1) := by decide +kernel
theorem dX5_leaveLine_1 : decode cX5_leaveLine 1 = .ok (.iload_n 1, 1) := by decide +kernel
theorem dX5_leaveLine_2 : decode cX5_leaveLine 2 = .ok (.invokevirtual 82, 3) := by decide +kernel
theorem dX5_leaveLine_5 : decode cX5_leaveLine 5 = .ok (.istore_n 2, 1) := by decide +kernel
theorem dX5_leaveLine_6 : decode cX5_leaveLine 6 = .ok (.iload_n 2, 1) := by decide +kernel
theorem dX5_leaveLine_7 : decode cX5_leaveLine 7 = .ok (.bipush (-5), 2) := by decide +kernel
theorem dX5_leaveLine_9 : decode cX5_leaveLine 9 = .ok (.if_icmp .eq 53, 3) := by decide +kernel
theorem dX5_leaveLine_12 : decode cX5_leaveLine 12 = .ok (.aload_n 0, 1) := by decide +kernel
theorem dX5_leaveLine_13 : decode cX5_leaveLine 13 = .ok (.getfield 7, 3) := by decide +kernel
theorem dX5_leaveLine_16 : decode cX5_leaveLine 16 = .ok (.bipush 53, 2) := by decide +kernel
theorem dX5_leaveLine_18 : decode cX5_leaveLine 18 = .ok (.dup2, 1) := by decide +kernel
theorem dX5_leaveLine_19 : decode cX5_leaveLine 19 = .ok (.iaload, 1) := by decide +kernel
theorem dX5_leaveLine_20 : decode cX5_leaveLine 20 = .ok (.iconst 1, 1) := by decide +kernel
theorem dX5_leaveLine_21 : decode cX5_leaveLine 21 = .ok (.isub, 1) := by decide +kernel
theorem dX5_leaveLine_22 : decode cX5_leaveLine 22 = .ok (.iastore, 1) := by decide +kernel
theorem dX5_leaveLine_23 : decode cX5_leaveLine 23 = .ok (.iload_n 2, 1) := by decide +kernel
theorem dX5_leaveLine_24 : decode cX5_leaveLine 24 = .ok (.istore_n 3, 1) := by decide +kernel
theorem dX5_leaveLine_25 : decode cX5_leaveLine 25 = .ok (.iload_n 3, 1) := by decide +kernel
theorem dX5_leaveLine_26 : decode cX5_leaveLine 26 = .ok (.aload_n 0, 1) := by decide +kernel
theorem dX5_leaveLine_27 : decode cX5_leaveLine 27 = .ok (.getfield 7, 3) := by decide +kernel
theorem dX5_leaveLine_30 : decode cX5_leaveLine 30 = .ok (.bipush 53, 2) := by decide +kernel
theorem dX5_leaveLine_32 : decode cX5_leaveLine 32 = .ok (.iaload, 1) := by decide +kernel
theorem dX5_leaveLine_33 : decode cX5_leaveLine 33 = .ok (.if_icmp .ge 29, 3) := by decide +kernel
theorem dX5_leaveLine_36 : decode cX5_leaveLine 36 = .ok (.aload_n 0, 1) := by decide +kernel
theorem dX5_leaveLine_37 : decode cX5_leaveLine 37 = .ok (.getfield 7, 3) := by decide +kernel
theorem dX5_leaveLine_40 : decode cX5_leaveLine 40 = .ok (.bipush 54, 2) := by decide +kernel
theorem dX5_leaveLine_42 : decode cX5_leaveLine 42 = .ok (.iload_n 3, 1) := by decide +kernel
theorem dX5_leaveLine_43 : decode cX5_leaveLine 43 = .ok (.iadd, 1) := by decide +kernel
theorem dX5_leaveLine_44 : decode cX5_leaveLine 44 = .ok (.aload_n 0, 1) := by decide +kernel
theorem dX5_leaveLine_45 : decode cX5_leaveLine 45 = .ok (.getfield 7, 3) := by decide +kernel
theorem dX5_leaveLine_48 : decode cX5_leaveLine 48 = .ok (.bipush 54, 2) := by decide +kernel
theorem dX5_leaveLine_50 : decode cX5_leaveLine 50 = .ok (.iload_n 3, 1) := by decide +kernel
theorem dX5_leaveLine_51 : decode cX5_leaveLine 51 = .ok (.iadd, 1) := by decide +kernel
theorem dX5_leaveLine_52 : decode cX5_leaveLine 52 = .ok (.iconst 1, 1) := by decide +kernel
theorem dX5_leaveLine_53 : decode cX5_leaveLine 53 = .ok (.iadd, 1) := by decide +kernel
theorem dX5_leaveLine_54 : decode cX5_leaveLine 54 = .ok (.iaload, 1) := by decide +kernel
theorem dX5_leaveLine_55 : decode cX5_leaveLine 55 = .ok (.iastore, 1) := by decide +kernel
theorem dX5_leaveLine_56 : decode cX5_leaveLine 56 = .ok (.iinc 3 1, 3) := by decide +kernel
theorem dX5_leaveLine_59 : decode cX5_leaveLine 59 = .ok (.goto (-34), 3) := by decide +kernel
theorem dX5_leaveLine_62 : decode cX5_leaveLine 62 = .ok (.return_, 1) := by decide +kernel
set_option maxRecDepth 20000 in
theorem ggX5_makeStep_X5_isLook : GoodIn wsX5_makeStep wsX5_isLook := goodIn_r _ [6, 1, 38, 39, 40, 41, 42, 43, 44, 45, 46, 47, 48, 49, 50, 51, 52, 53, 54, 55] (by decide +kernel) (by decide +kernel)
set_option maxRecDepth 20000 in
theorem gX5_makeStep_X5_isLook : GoodIn wsX5_makeStep (wsV RX5 86 RX5 yX5_isLook wsX5_isLook) := goodIn_app (goodIn_of _ (by decide +kernel)) ggX5_makeStep_X5_isLook
set_option maxRecDepth 20000 in
theorem ggX5_makeStep_X5_cost : GoodIn wsX5_makeStep wsX5_cost := goodIn_r _ [9] (by decide +kernel) (by decide +kernel)
set_option maxRecDepth 20000 in
theorem gX5_makeStep_X5_cost : GoodIn wsX5_makeStep (va_wsS RX5 90 yX5_cost wsX5_cost) := goodIn_app (goodIn_of _ (by decide +kernel)) ggX5_makeStep_X5_cost
set_option maxRecDepth 20000 in
theorem ggX5_makeStep_X5_change : GoodIn wsX5_makeStep wsX5_change := goodIn_r _ [13, 1, 14, 15, 16, 5, 17, 18, 19, 20, 21, 22, 23, 24, 25, 26, 27, 28, 29, 38, 39, 40, 41, 42, 43, 44, 45, 46, 47, 48, 49, 50, 51, 52, 53, 54, 55] (by decide +kernel) (by decide +kernel)
set_option maxRecDepth 20000 in
theorem gX5_makeStep_X5_change : GoodIn wsX5_makeStep (wsV RX5 94 RX5 yX5_change wsX5_change) := goodIn_app (goodIn_of _ (by decide +kernel)) ggX5_makeStep_X5_change
set_option maxRecDepth 20000 in
theorem ggX5_makeStep_X5_leaveLine : GoodIn wsX5_makeStep wsX5_leaveLine := goodIn_r _ [33, 1, 34, 35, 36, 5, 37, 38, 39, 40, 41, 42, 43, 44, 45, 46, 47, 48, 49, 50, 51, 52, 53, 54, 55] (by decide +kernel) (by decide +kernel)
set_option maxRecDepth 20000 in
theorem gX5_makeStep_X5_leaveLine : GoodIn wsX5_makeStep (wsV RX5 97 RX5 yX5_leaveLine wsX5_leaveLine) := goodIn_app (goodIn_of _ (by decide +kernel)) ggX5_makeStep_X5_leaveLine
theorem dX5_makeStep_0 : decode cX5_makeStep 0 = .ok (.aload_n 0, 1) := by decide +kernel
theorem dX5_makeStep_1 : decode cX5_makeStep 1 = .ok (.getfield 7, 3) := by decide +kernel
theorem dX5_makeStep_4 : decode cX5_makeStep 4 = .ok (.iconst 0, 1) := by decide +kernel
theorem dX5_makeStep_5 : decode cX5_makeStep 5 = .ok (.iload_n 1, 1) := by decide +kernel
theorem dX5_makeStep_6 : decode cX5_makeStep 6 = .ok (.iadd, 1) := by decide +kernel
theorem dX5_makeStep_7 : decode cX5_makeStep 7 = .ok (.iaload, 1) := by decide +kernel
theorem dX5_makeStep_8 : decode cX5_makeStep 8 = .ok (.istore_n 2, 1) := by decide +kernel
theorem dX5_makeStep_9 : decode cX5_makeStep 9 = .ok (.aload_n 0, 1) := by decide +kernel
theorem dX5_makeStep_10 : decode cX5_makeStep 10 = .ok (.iload_n 1, 1) := by decide +kernel
theorem dX5_makeStep_11 : decode cX5_makeStep 11 = .ok (.invokevirtual 86, 3) := by decide +kernel
theorem dX5_makeStep_14 : decode cX5_makeStep 14 = .ok (.istore_n 3, 1) := by decide +kernel
theorem dX5_makeStep_15 : decode cX5_makeStep 15 = .ok (.aload_n 0, 1) := by decide +kernel
theorem dX5_makeStep_16 : decode cX5_makeStep 16 = .ok (.getfield 7, 3) := by decide +kernel
theorem dX5_makeStep_19 : decode cX5_makeStep 19 = .ok (.bipush 62, 2) := by decide +kernel
theorem dX5_makeStep_21 : decode cX5_makeStep 21 = .ok (.iload_n 1, 1) := by decide +kernel
theorem dX5_makeStep_22 : decode cX5_makeStep 22 = .ok (.iadd, 1) := by decide +kernel
theorem dX5_makeStep_23 : decode cX5_makeStep 23 = .ok (.dup2, 1) := by decide +kernel
theorem dX5_makeStep_24 : decode cX5_makeStep 24 = .ok (.iaload, 1) := by decide +kernel
theorem dX5_makeStep_25 : decode cX5_makeStep 25 = .ok (.iconst 1, 1) := by decide +kernel
theorem dX5_makeStep_26 : decode cX5_makeStep 26 = .ok (.iadd, 1) := by decide +kernel
theorem dX5_makeStep_27 : decode cX5_makeStep 27 = .ok (.iastore, 1) := by decide +kernel
theorem dX5_makeStep_28 : decode cX5_makeStep 28 = .ok (.aload_n 0, 1) := by decide +kernel
theorem dX5_makeStep_29 : decode cX5_makeStep 29 = .ok (.getfield 7, 3) := by decide +kernel
theorem dX5_makeStep_32 : decode cX5_makeStep 32 = .ok (.bipush 68, 2) := by decide +kernel
theorem dX5_makeStep_34 : decode cX5_makeStep 34 = .ok (.iload_n 1, 1) := by decide +kernel
theorem dX5_makeStep_35 : decode cX5_makeStep 35 = .ok (.iadd, 1) := by decide +kernel
theorem dX5_makeStep_36 : decode cX5_makeStep 36 = .ok (.dup2, 1) := by decide +kernel
theorem dX5_makeStep_37 : decode cX5_makeStep 37 = .ok (.iaload, 1) := by decide +kernel
theorem dX5_makeStep_38 : decode cX5_makeStep 38 = .ok (.iload_n 3, 1) := by decide +kernel
theorem dX5_makeStep_39 : decode cX5_makeStep 39 = .ok (.ifCond .eq 7, 3) := by decide +kernel
theorem dX5_makeStep_42 : decode cX5_makeStep 42 = .ok (.iconst 1, 1) := by decide +kernel
theorem dX5_makeStep_43 : decode cX5_makeStep 43 = .ok (.goto 4, 3) := by decide +kernel
theorem dX5_makeStep_46 : decode cX5_makeStep 46 = .ok (.iconst 0, 1) := by decide +kernel
theorem dX5_makeStep_47 : decode cX5_makeStep 47 = .ok (.iadd, 1) := by decide +kernel
theorem dX5_makeStep_48 : decode cX5_makeStep 48 = .ok (.iastore, 1) := by decide +kernel
theorem dX5_makeStep_49 : decode cX5_makeStep 49 = .ok (.aload_n 0, 1) := by decide +kernel
theorem dX5_makeStep_50 : decode cX5_makeStep 50 = .ok (.getfield 7, 3) := by decide +kernel
theorem dX5_makeStep_53 : decode cX5_makeStep 53 = .ok (.bipush 80, 2) := by decide +kernel
theorem dX5_makeStep_55 : decode cX5_makeStep 55 = .ok (.iload_n 1, 1) := by decide +kernel
theorem dX5_makeStep_56 : decode cX5_makeStep 56 = .ok (.iadd, 1) := by decide +kernel
theorem dX5_makeStep_57 : decode cX5_makeStep 57 = .ok (.dup2, 1) := by decide +kernel
theorem dX5_makeStep_58 : decode cX5_makeStep 58 = .ok (.iaload, 1) := by decide +kernel
theorem dX5_makeStep_59 : decode cX5_makeStep 59 = .ok (.aload_n 0, 1) := by decide +kernel
theorem dX5_makeStep_60 : decode cX5_makeStep 60 = .ok (.getfield 7, 3) := by decide +kernel
theorem dX5_makeStep_63 : decode cX5_makeStep 63 = .ok (.bipush 60, 2) := by decide +kernel
theorem dX5_makeStep_65 : decode cX5_makeStep 65 = .ok (.iaload, 1) := by decide +kernel
theorem dX5_makeStep_66 : decode cX5_makeStep 66 = .ok (.iload_n 2, 1) := by decide +kernel
theorem dX5_makeStep_67 : decode cX5_makeStep 67 = .ok (.invokestatic 90, 3) := by decide +kernel
theorem dX5_makeStep_70 : decode cX5_makeStep 70 = .ok (.iadd, 1) := by decide +kernel
theorem dX5_makeStep_71 : decode cX5_makeStep 71 = .ok (.iastore, 1) := by decide +kernel
theorem dX5_makeStep_72 : decode cX5_makeStep 72 = .ok (.iload_n 3, 1) := by decide +kernel
theorem dX5_makeStep_73 : decode cX5_makeStep 73 = .ok (.ifCond .eq 4, 3) := by decide +kernel
theorem dX5_makeStep_76 : decode cX5_makeStep 76 = .ok (.return_, 1) := by decide +kernel
theorem dX5_makeStep_77 : decode cX5_makeStep 77 = .ok (.aload_n 0, 1) := by decide +kernel
theorem dX5_makeStep_78 : decode cX5_makeStep 78 = .ok (.iload_n 1, 1) := by decide +kernel
theorem dX5_makeStep_79 : decode cX5_makeStep 79 = .ok (.invokevirtual 94, 3) := by decide +kernel
theorem dX5_makeStep_82 : decode cX5_makeStep 82 = .ok (.aload_n 0, 1) := by decide +kernel
theorem dX5_makeStep_83 : decode cX5_makeStep 83 = .ok (.getfield 7, 3) := by decide +kernel
theorem dX5_makeStep_86 : decode cX5_makeStep 86 = .ok (.iconst 0, 1) := by decide +kernel
theorem dX5_makeStep_87 : decode cX5_makeStep 87 = .ok (.iload_n 1, 1) := by decide +kernel
theorem dX5_makeStep_88 : decode cX5_makeStep 88 = .ok (.iadd, 1) := by decide +kernel
theorem dX5_makeStep_89 : decode cX5_makeStep 89 = .ok (.iaload, 1) := by decide +kernel
theorem dX5_makeStep_90 : decode cX5_makeStep 90 = .ok (.ifCond .ne 21, 3) := by decide +kernel
theorem dX5_makeStep_93 : decode cX5_makeStep 93 = .ok (.aload_n 0, 1) := by decide +kernel
theorem dX5_makeStep_94 : decode cX5_makeStep 94 = .ok (.getfield 7, 3) := by decide +kernel
theorem dX5_makeStep_97 : decode cX5_makeStep 97 = .ok (.bipush 74, 2) := by decide +kernel
theorem dX5_makeStep_99 : decode cX5_makeStep 99 = .ok (.iload_n 1, 1) := by decide +kernel
theorem dX5_makeStep_100 : decode cX5_makeStep 100 = .ok (.iadd, 1) := by decide +kernel
theorem dX5_makeStep_101 : decode cX5_makeStep 101 = .ok (.dup2, 1) := by decide +kernel
theorem dX5_makeStep_102 : decode cX5_makeStep 102 = .ok (.iaload, 1) := by decide +kernel
theorem dX5_makeStep_103 : decode cX5_makeStep 103 = .ok (.iconst 1, 1) := by decide +kernel
theorem dX5_makeStep_104 : decode cX5_makeStep 104 = .ok (.iadd, 1) := by decide +kernel
theorem dX5_makeStep_105 : decode cX5_makeStep 105 = .ok (.iastore, 1) := by decide +kernel
theorem dX5_makeStep_106 : decode cX5_makeStep 106 = .ok (.aload_n 0, 1) := by decide +kernel
theorem dX5_makeStep_107 : decode cX5_makeStep 107 = .ok (.iload_n 1, 1) := by decide +kernel
theorem dX5_makeStep_108 : decode cX5_makeStep 108 = .ok (.invokevirtual 97, 3) := by decide +kernel
theorem dX5_makeStep_111 : decode cX5_makeStep 111 = .ok (.aload_n 0, 1) := by decide +kernel
theorem dX5_makeStep_112 : decode cX5_makeStep 112 = .ok (.getfield 7, 3) := by decide +kernel
theorem dX5_makeStep_115 : decode cX5_makeStep 115 = .ok (.bipush 60, 2) := by decide +kernel
theorem dX5_makeStep_117 : decode cX5_makeStep 117 = .ok (.iaload, 1) := by decide +kernel
theorem dX5_makeStep_118 : decode cX5_makeStep 118 = .ok (.iconst 3, 1) := by decide +kernel
theorem dX5_makeStep_119 : decode cX5_makeStep 119 = .ok (.if_icmp .ge 47, 3) := by decide +kernel
theorem dX5_makeStep_122 : decode cX5_makeStep 122 = .ok (.iload_n 2, 1) := by decide +kernel
theorem dX5_makeStep_123 : decode cX5_makeStep 123 = .ok (.iconst 2, 1) := by decide +kernel
theorem dX5_makeStep_124 : decode cX5_makeStep 124 = .ok (.if_icmp .ge 42, 3) := by decide +kernel
theorem dX5_makeStep_127 : decode cX5_makeStep 127 = .ok (.aload_n 0, 1) := by decide +kernel
theorem dX5_makeStep_128 : decode cX5_makeStep 128 = .ok (.getfield 7, 3) := by decide +kernel
theorem dX5_makeStep_131 : decode cX5_makeStep 131 = .ok (.iconst 0, 1) := by decide +kernel
theorem dX5_makeStep_132 : decode cX5_makeStep 132 = .ok (.iload_n 1, 1) := by decide +kernel
theorem dX5_makeStep_133 : decode cX5_makeStep 133 = .ok (.iadd, 1) := by decide +kernel
theorem dX5_makeStep_134 : decode cX5_makeStep 134 = .ok (.iaload, 1) := by decide +kernel
theorem dX5_makeStep_135 : decode cX5_makeStep 135 = .ok (.iconst 2, 1) := by decide +kernel
theorem dX5_makeStep_136 : decode cX5_makeStep 136 = .ok (.if_icmp .lt 30, 3) := by decide +kernel
theorem dX5_makeStep_139 : decode cX5_makeStep 139 = .ok (.aload_n 0, 1) := by decide +kernel
theorem dX5_makeStep_140 : decode cX5_makeStep 140 = .ok (.getfield 7, 3) := by decide +kernel
theorem dX5_makeStep_143 : decode cX5_makeStep 143 = .ok (.bipush 54, 2) := by decide +kernel
theorem dX5_makeStep_145 : decode cX5_makeStep 145 = .ok (.aload_n 0, 1) := by decide +kernel
theorem dX5_makeStep_146 : decode cX5_makeStep 146 = .ok (.getfield 7, 3) := by decide +kernel
theorem dX5_makeStep_149 : decode cX5_makeStep 149 = .ok (.bipush 53, 2) := by decide +kernel
theorem dX5_makeStep_151 : decode cX5_makeStep 151 = .ok (.iaload, 1) := by decide +kernel
theorem dX5_makeStep_152 : decode cX5_makeStep 152 = .ok (.iadd, 1) := by decide +kernel
theorem dX5_makeStep_153 : decode cX5_makeStep 153 = .ok (.iload_n 1, 1) := by decide +kernel
theorem dX5_makeStep_154 : decode cX5_makeStep 154 = .ok (.iastore, 1) := by decide +kernel
theorem dX5_makeStep_155 : decode cX5_makeStep 155 = .ok (.aload_n 0, 1) := by decide +kernel
theorem dX5_makeStep_156 : decode cX5_makeStep 156 = .ok (.getfield 7, 3) := by decide +kernel
theorem dX5_makeStep_159 : decode cX5_makeStep 159 = .ok (.bipush 53, 2) := by decide +kernel
theorem dX5_makeStep_161 : decode cX5_makeStep 161 = .ok (.dup2, 1) := by decide +kernel
theorem dX5_makeStep_162 : decode cX5_makeStep 162 = .ok (.iaload, 1) := by decide +kernel
theorem dX5_makeStep_163 : decode cX5_makeStep 163 = .ok (.iconst 1, 1) := by decide +kernel
theorem dX5_makeStep_164 : decode cX5_makeStep 164 = .ok (.iadd, 1) := by decide +kernel
theorem dX5_makeStep_165 : decode cX5_makeStep 165 = .ok (.iastore, 1) := by decide +kernel
theorem dX5_makeStep_166 : decode cX5_makeStep 166 = .ok (.return_, 1) := by decide +kernel
set_option maxRecDepth 20000 in
theorem ggX5_build_X5_in : GoodIn wsX5_build wsX5_in := goodIn_r _ [5] (by decide +kernel) (by decide +kernel)
set_option maxRecDepth 20000 in
theorem gX5_build_X5_in : GoodIn wsX5_build (va_wsS RX5 47 yX5_in wsX5_in) := goodIn_app (goodIn_of _ (by decide +kernel)) ggX5_build_X5_in
set_option maxRecDepth 20000 in
theorem ggX5_build_X5_notAway : GoodIn wsX5_build wsX5_notAway := goodIn_r _ [9, 1, 23, 24, 25, 26, 27, 28, 29, 30, 31, 32, 33, 34, 35, 36, 37, 38, 39, 40] (by decide +kernel) (by decide +kernel)
set_option maxRecDepth 20000 in
theorem gX5_build_X5_notAway : GoodIn wsX5_build (wsV RX5 63 RX5 yX5_notAway wsX5_notAway) := goodIn_app (goodIn_of _ (by decide +kernel)) ggX5_build_X5_notAway
set_option maxRecDepth 20000 in
theorem ggX5_build_X5_record : GoodIn wsX5_build wsX5_record := goodIn_r _ [13, 14, 15, 1, 16, 17, 4, 18, 23, 24, 25, 26, 27, 28, 29, 30, 31, 32, 33, 34, 35, 36, 37, 38, 39, 40] (by decide +kernel) (by decide +kernel)
set_option maxRecDepth 20000 in
theorem gX5_build_X5_record : GoodIn wsX5_build (wsV RX5 67 RX5 yX5_record wsX5_record) := goodIn_app (goodIn_of _ (by decide +kernel)) ggX5_build_X5_record
set_option maxRecDepth 20000 in
theorem ggX5_build_X5_clearLock : GoodIn wsX5_build wsX5_clearLock := goodIn_r _ [22, 1, 23, 24, 25, 26, 27, 28, 29, 30, 31, 32, 33, 34, 35, 36, 37, 38, 39, 40] (by decide +kernel) (by decide +kernel)
set_option maxRecDepth 20000 in
theorem gX5_build_X5_clearLock : GoodIn wsX5_build (wsV RX5 43 RX5 yX5_clearLock wsX5_clearLock) := goodIn_app (goodIn_of _ (by decide +kernel)) ggX5_build_X5_clearLock
theorem dX5_build_0 : decode cX5_build 0 = .ok (.iload_n 1, 1) := by decide +kernel
theorem dX5_build_1 : decode cX5_build 1 = .ok (.iconst 0, 1) := by decide +kernel
theorem dX5_build_2 : decode cX5_build 2 = .ok (.iconst 3, 1) := by decide +kernel
theorem dX5_build_3 : decode cX5_build 3 = .ok (.invokestatic 47, 3) := by decide +kernel
theorem dX5_build_6 : decode cX5_build 6 = .ok (.ifCond .ne 5, 3) := by decide +kernel
theorem dX5_build_9 : decode cX5_build 9 = .ok (.iconst (-1), 1) := by decide +kernel
theorem dX5_build_10 : decode cX5_build 10 = .ok (.ireturn, 1) := by decide +kernel
theorem dX5_build_11 : decode cX5_build 11 = .ok (.aload_n 0, 1) := by decide +kernel
theorem dX5_build_12 : decode cX5_build 12 = .ok (.invokevirtual 63, 3) := by decide +kernel
theorem dX5_build_15 : decode cX5_build 15 = .ok (.ifCond .le 6, 3) := by decide +kernel
theorem dX5_build_18 : decode cX5_build 18 = .ok (.bipush (-4), 2) := by decide +kernel
theorem dX5_build_20 : decode cX5_build 20 = .ok (.ireturn, 1) := by decide +kernel
theorem dX5_build_21 : decode cX5_build 21 = .ok (.aload_n 0, 1) := by decide +kernel
theorem dX5_build_22 : decode cX5_build 22 = .ok (.invokevirtual 67, 3) := by decide +kernel
theorem dX5_build_25 : decode cX5_build 25 = .ok (.aload_n 0, 1) := by decide +kernel
theorem dX5_build_26 : decode cX5_build 26 = .ok (.getfield 7, 3) := by decide +kernel
theorem dX5_build_29 : decode cX5_build 29 = .ok (.bipush 60, 2) := by decide +kernel
theorem dX5_build_31 : decode cX5_build 31 = .ok (.iaload, 1) := by decide +kernel
theorem dX5_build_32 : decode cX5_build 32 = .ok (.istore_n 2, 1) := by decide +kernel
theorem dX5_build_33 : decode cX5_build 33 = .ok (.aload_n 0, 1) := by decide +kernel
theorem dX5_build_34 : decode cX5_build 34 = .ok (.iload_n 1, 1) := by decide +kernel
theorem dX5_build_35 : decode cX5_build 35 = .ok (.invokevirtual 43, 3) := by decide +kernel
theorem dX5_build_38 : decode cX5_build 38 = .ok (.iload_n 2, 1) := by decide +kernel
theorem dX5_build_39 : decode cX5_build 39 = .ok (.ireturn, 1) := by decide +kernel
set_option maxRecDepth 20000 in
theorem ggX5_step_X5_isVisitor : GoodIn wsX5_step wsX5_isVisitor := goodIn_r _ [5, 6, 7, 4, 8] (by decide +kernel) (by decide +kernel)
set_option maxRecDepth 20000 in
theorem gX5_step_X5_isVisitor : GoodIn wsX5_step (va_wsS RX5 100 yX5_isVisitor wsX5_isVisitor) := goodIn_app (goodIn_of _ (by decide +kernel)) ggX5_step_X5_isVisitor
set_option maxRecDepth 20000 in
theorem ggX5_step_X5_record : GoodIn wsX5_step wsX5_record := goodIn_r _ [12, 13, 14, 1, 15, 16, 4, 17, 57, 58, 59, 60, 61, 62, 63, 64, 65, 66, 67, 68, 69, 70, 71, 72, 73, 74] (by decide +kernel) (by decide +kernel)
set_option maxRecDepth 20000 in
theorem gX5_step_X5_record : GoodIn wsX5_step (wsV RX5 67 RX5 yX5_record wsX5_record) := goodIn_app (goodIn_of _ (by decide +kernel)) ggX5_step_X5_record
set_option maxRecDepth 20000 in
theorem ggX5_step_X5_makeStep : GoodIn wsX5_step wsX5_makeStep := goodIn_r _ [21, 1, 22, 23, 24, 4, 25, 26, 27, 28, 29, 30, 31, 32, 33, 34, 35, 36, 37, 38, 39, 40, 41, 42, 43, 44, 45, 46, 47, 48, 49, 50, 51, 52, 53, 54, 55, 56, 57, 58, 59, 60, 61, 62, 63, 64, 65, 66, 67, 68, 69, 70, 71, 72, 73, 74] (by decide +kernel) (by decide +kernel)
set_option maxRecDepth 20000 in
theorem gX5_step_X5_makeStep : GoodIn wsX5_step (wsV RX5 103 RX5 yX5_makeStep wsX5_makeStep) := goodIn_app (goodIn_of _ (by decide +kernel)) ggX5_step_X5_makeStep
theorem dX5_step_0 : decode cX5_step 0 = .ok (.iload_n 1, 1) := by decide +kernel
theorem dX5_step_1 : decode cX5_step 1 = .ok (.invokestatic 100, 3) := by decide +kernel
theorem dX5_step_4 : decode cX5_step 4 = .ok (.ifCond .ne 5, 3) := by decide +kernel
theorem dX5_step_7 : decode cX5_step 7 = .ok (.iconst (-1), 1) := by decide +kernel
theorem dX5_step_8 : decode cX5_step 8 = .ok (.ireturn, 1) := by decide +kernel
theorem dX5_step_9 : decode cX5_step 9 = .ok (.aload_n 0, 1) := by decide +kernel
theorem dX5_step_10 : decode cX5_step 10 = .ok (.invokevirtual 67, 3) := by decide +kernel
theorem dX5_step_13 : decode cX5_step 13 = .ok (.aload_n 0, 1) := by decide +kernel
theorem dX5_step_14 : decode cX5_step 14 = .ok (.iload_n 1, 1) := by decide +kernel
theorem dX5_step_15 : decode cX5_step 15 = .ok (.invokevirtual 103, 3) := by decide +kernel
theorem dX5_step_18 : decode cX5_step 18 = .ok (.aload_n 0, 1) := by decide +kernel
theorem dX5_step_19 : decode cX5_step 19 = .ok (.getfield 7, 3) := by decide +kernel
theorem dX5_step_22 : decode cX5_step 22 = .ok (.iconst 0, 1) := by decide +kernel
theorem dX5_step_23 : decode cX5_step 23 = .ok (.iload_n 1, 1) := by decide +kernel
theorem dX5_step_24 : decode cX5_step 24 = .ok (.iadd, 1) := by decide +kernel
theorem dX5_step_25 : decode cX5_step 25 = .ok (.iaload, 1) := by decide +kernel
theorem dX5_step_26 : decode cX5_step 26 = .ok (.ireturn, 1) := by decide +kernel
set_option maxRecDepth 20000 in
theorem ggX5_go_X5_isVisitor : GoodIn wsX5_go wsX5_isVisitor := goodIn_r _ [5, 6, 7, 4, 8] (by decide +kernel) (by decide +kernel)
set_option maxRecDepth 20000 in
theorem gX5_go_X5_isVisitor : GoodIn wsX5_go (va_wsS RX5 100 yX5_isVisitor wsX5_isVisitor) := goodIn_app (goodIn_of _ (by decide +kernel)) ggX5_go_X5_isVisitor
set_option maxRecDepth 20000 in
theorem ggX5_go_X5_isLook : GoodIn wsX5_go wsX5_isLook := goodIn_r _ [12, 1, 57, 58, 59, 60, 61, 62, 63, 64, 65, 66, 67, 68, 69, 70, 71, 72, 73, 74] (by decide +kernel) (by decide +kernel)
set_option maxRecDepth 20000 in
theorem gX5_go_X5_isLook : GoodIn wsX5_go (wsV RX5 86 RX5 yX5_isLook wsX5_isLook) := goodIn_app (goodIn_of _ (by decide +kernel)) ggX5_go_X5_isLook
set_option maxRecDepth 20000 in
theorem ggX5_go_X5_record : GoodIn wsX5_go wsX5_record := goodIn_r _ [16, 17, 18, 1, 19, 20, 4, 21, 57, 58, 59, 60, 61, 62, 63, 64, 65, 66, 67, 68, 69, 70, 71, 72, 73, 74] (by decide +kernel) (by decide +kernel)
set_option maxRecDepth 20000 in
theorem gX5_go_X5_record : GoodIn wsX5_go (wsV RX5 67 RX5 yX5_record wsX5_record) := goodIn_app (goodIn_of _ (by decide +kernel)) ggX5_go_X5_record
set_option maxRecDepth 20000 in
theorem ggX5_go_X5_makeStep : GoodIn wsX5_go wsX5_makeStep := goodIn_r _ [25, 1, 9, 10, 11, 4, 12, 26, 27, 28, 29, 30, 31, 32, 33, 34, 35, 36, 37, 38, 39, 40, 41, 42, 43, 44, 45, 46, 47, 48, 49, 50, 51, 52, 53, 54, 55, 56, 57, 58, 59, 60, 61, 62, 63, 64, 65, 66, 67, 68, 69, 70, 71, 72, 73, 74] (by decide +kernel) (by decide +kernel)
set_option maxRecDepth 20000 in
theorem gX5_go_X5_makeStep : GoodIn wsX5_go (wsV RX5 103 RX5 yX5_makeStep wsX5_makeStep) := goodIn_app (goodIn_of _ (by decide +kernel)) ggX5_go_X5_makeStep
theorem dX5_go_0 : decode cX5_go 0 = .ok (.iload_n 1, 1) := by decide +kernel
theorem dX5_go_1 : decode cX5_go 1 = .ok (.invokestatic 100, 3) := by decide +kernel
theorem dX5_go_4 : decode cX5_go 4 = .ok (.ifCond .ne 5, 3) := by decide +kernel
theorem dX5_go_7 : decode cX5_go 7 = .ok (.iconst (-1), 1) := by decide +kernel
theorem dX5_go_8 : decode cX5_go 8 = .ok (.ireturn, 1) := by decide +kernel
theorem dX5_go_9 : decode cX5_go 9 = .ok (.aload_n 0, 1) := by decide +kernel
theorem dX5_go_10 : decode cX5_go 10 = .ok (.iload_n 1, 1) := by decide +kernel
theorem dX5_go_11 : decode cX5_go 11 = .ok (.invokevirtual 86, 3) := by decide +kernel
theorem dX5_go_14 : decode cX5_go 14 = .ok (.ifCond .eq 6, 3) := by decide +kernel
theorem dX5_go_17 : decode cX5_go 17 = .ok (.bipush (-5), 2) := by decide +kernel
theorem dX5_go_19 : decode cX5_go 19 = .ok (.ireturn, 1) := by decide +kernel
theorem dX5_go_20 : decode cX5_go 20 = .ok (.aload_n 0, 1) := by decide +kernel
theorem dX5_go_21 : decode cX5_go 21 = .ok (.invokevirtual 67, 3) := by decide +kernel
theorem dX5_go_24 : decode cX5_go 24 = .ok (.iconst 0, 1) := by decide +kernel
theorem dX5_go_25 : decode cX5_go 25 = .ok (.istore_n 2, 1) := by decide +kernel
theorem dX5_go_26 : decode cX5_go 26 = .ok (.iconst 1, 1) := by decide +kernel
theorem dX5_go_27 : decode cX5_go 27 = .ok (.istore_n 3, 1) := by decide +kernel
theorem dX5_go_28 : decode cX5_go 28 = .ok (.iload_n 3, 1) := by decide +kernel
theorem dX5_go_29 : decode cX5_go 29 = .ok (.ifCond .eq 51, 3) := by decide +kernel
theorem dX5_go_32 : decode cX5_go 32 = .ok (.aload_n 0, 1) := by decide +kernel
theorem dX5_go_33 : decode cX5_go 33 = .ok (.iload_n 1, 1) := by decide +kernel
theorem dX5_go_34 : decode cX5_go 34 = .ok (.invokevirtual 103, 3) := by decide +kernel
theorem dX5_go_37 : decode cX5_go 37 = .ok (.iinc 2 1, 3) := by decide +kernel
theorem dX5_go_40 : decode cX5_go 40 = .ok (.aload_n 0, 1) := by decide +kernel
theorem dX5_go_41 : decode cX5_go 41 = .ok (.getfield 7, 3) := by decide +kernel
theorem dX5_go_44 : decode cX5_go 44 = .ok (.iconst 0, 1) := by decide +kernel
theorem dX5_go_45 : decode cX5_go 45 = .ok (.iload_n 1, 1) := by decide +kernel
theorem dX5_go_46 : decode cX5_go 46 = .ok (.iadd, 1) := by decide +kernel
theorem dX5_go_47 : decode cX5_go 47 = .ok (.iaload, 1) := by decide +kernel
theorem dX5_go_48 : decode cX5_go 48 = .ok (.iconst 4, 1) := by decide +kernel
theorem dX5_go_49 : decode cX5_go 49 = .ok (.if_icmp .eq 26, 3) := by decide +kernel
theorem dX5_go_52 : decode cX5_go 52 = .ok (.aload_n 0, 1) := by decide +kernel
theorem dX5_go_53 : decode cX5_go 53 = .ok (.getfield 7, 3) := by decide +kernel
theorem dX5_go_56 : decode cX5_go 56 = .ok (.iconst 0, 1) := by decide +kernel
theorem dX5_go_57 : decode cX5_go 57 = .ok (.iload_n 1, 1) := by decide +kernel
theorem dX5_go_58 : decode cX5_go 58 = .ok (.iadd, 1) := by decide +kernel
theorem dX5_go_59 : decode cX5_go 59 = .ok (.iaload, 1) := by decide +kernel
theorem dX5_go_60 : decode cX5_go 60 = .ok (.ifCond .eq 15, 3) := by decide +kernel
theorem dX5_go_63 : decode cX5_go 63 = .ok (.aload_n 0, 1) := by decide +kernel
theorem dX5_go_64 : decode cX5_go 64 = .ok (.iload_n 1, 1) := by decide +kernel
theorem dX5_go_65 : decode cX5_go 65 = .ok (.invokevirtual 86, 3) := by decide +kernel
theorem dX5_go_68 : decode cX5_go 68 = .ok (.ifCond .ne 7, 3) := by decide +kernel
theorem dX5_go_71 : decode cX5_go 71 = .ok (.iconst 1, 1) := by decide +kernel
theorem dX5_go_72 : decode cX5_go 72 = .ok (.goto 4, 3) := by decide +kernel
theorem dX5_go_75 : decode cX5_go 75 = .ok (.iconst 0, 1) := by decide +kernel
theorem dX5_go_76 : decode cX5_go 76 = .ok (.istore_n 3, 1) := by decide +kernel
theorem dX5_go_77 : decode cX5_go 77 = .ok (.goto (-49), 3) := by decide +kernel
theorem dX5_go_80 : decode cX5_go 80 = .ok (.iload_n 2, 1) := by decide +kernel
theorem dX5_go_81 : decode cX5_go 81 = .ok (.ireturn, 1) := by decide +kernel
theorem dX5_bits_0 : decode cX5_bits 0 = .ok (.iconst 0, 1) := by decide +kernel
theorem dX5_bits_1 : decode cX5_bits 1 = .ok (.istore_n 1, 1) := by decide +kernel
theorem dX5_bits_2 : decode cX5_bits 2 = .ok (.iconst 0, 1) := by decide +kernel
theorem dX5_bits_3 : decode cX5_bits 3 = .ok (.istore_n 2, 1) := by decide +kernel
theorem dX5_bits_4 : decode cX5_bits 4 = .ok (.iload_n 2, 1) := by decide +kernel
theorem dX5_bits_5 : decode cX5_bits 5 = .ok (.bipush 6, 2) := by decide +kernel
theorem dX5_bits_7 : decode cX5_bits 7 = .ok (.if_icmp .ge 17, 3) := by decide +kernel
theorem dX5_bits_10 : decode cX5_bits 10 = .ok (.iload_n 1, 1) := by decide +kernel
theorem dX5_bits_11 : decode cX5_bits 11 = .ok (.iload_n 0, 1) := by decide +kernel
theorem dX5_bits_12 : decode cX5_bits 12 = .ok (.iload_n 2, 1) := by decide +kernel
theorem dX5_bits_13 : decode cX5_bits 13 = .ok (.ishr, 1) := by decide +kernel
theorem dX5_bits_14 : decode cX5_bits 14 = .ok (.iconst 1, 1) := by decide +kernel
theorem dX5_bits_15 : decode cX5_bits 15 = .ok (.iand, 1) := by decide +kernel
theorem dX5_bits_16 : decode cX5_bits 16 = .ok (.iadd, 1) := by decide +kernel
theorem dX5_bits_17 : decode cX5_bits 17 = .ok (.istore_n 1, 1) := by decide +kernel
theorem dX5_bits_18 : decode cX5_bits 18 = .ok (.iinc 2 1, 3) := by decide +kernel
theorem dX5_bits_21 : decode cX5_bits 21 = .ok (.goto (-17), 3) := by decide +kernel
theorem dX5_bits_24 : decode cX5_bits 24 = .ok (.iload_n 1, 1) := by decide +kernel
theorem dX5_bits_25 : decode cX5_bits 25 = .ok (.ireturn, 1) := by decide +kernel
theorem dX5_pick_0 : decode cX5_pick 0 = .ok (.bipush (-5), 2) := by decide +kernel
theorem dX5_pick_2 : decode cX5_pick 2 = .ok (.istore_n 2, 1) := by decide +kernel
theorem dX5_pick_3 : decode cX5_pick 3 = .ok (.iconst 0, 1) := by decide +kernel
theorem dX5_pick_4 : decode cX5_pick 4 = .ok (.istore_n 3, 1) := by decide +kernel
theorem dX5_pick_5 : decode cX5_pick 5 = .ok (.iconst 0, 1) := by decide +kernel
theorem dX5_pick_6 : decode cX5_pick 6 = .ok (.istore 4, 2) := by decide +kernel
theorem dX5_pick_8 : decode cX5_pick 8 = .ok (.iload 4, 2) := by decide +kernel
theorem dX5_pick_10 : decode cX5_pick 10 = .ok (.bipush 6, 2) := by decide +kernel
theorem dX5_pick_12 : decode cX5_pick 12 = .ok (.if_icmp .ge 40, 3) := by decide +kernel
theorem dX5_pick_15 : decode cX5_pick 15 = .ok (.iload_n 0, 1) := by decide +kernel
theorem dX5_pick_16 : decode cX5_pick 16 = .ok (.iload 4, 2) := by decide +kernel
theorem dX5_pick_18 : decode cX5_pick 18 = .ok (.ishr, 1) := by decide +kernel
theorem dX5_pick_19 : decode cX5_pick 19 = .ok (.iconst 1, 1) := by decide +kernel
theorem dX5_pick_20 : decode cX5_pick 20 = .ok (.iand, 1) := by decide +kernel
theorem dX5_pick_21 : decode cX5_pick 21 = .ok (.iconst 1, 1) := by decide +kernel
theorem dX5_pick_22 : decode cX5_pick 22 = .ok (.if_icmp .ne 13, 3) := by decide +kernel
theorem dX5_pick_25 : decode cX5_pick 25 = .ok (.iload_n 3, 1) := by decide +kernel
theorem dX5_pick_26 : decode cX5_pick 26 = .ok (.iload_n 1, 1) := by decide +kernel
theorem dX5_pick_27 : decode cX5_pick 27 = .ok (.if_icmp .ne 8, 3) := by decide +kernel
theorem dX5_pick_30 : decode cX5_pick 30 = .ok (.iload 4, 2) := by decide +kernel
theorem dX5_pick_32 : decode cX5_pick 32 = .ok (.goto 4, 3) := by decide +kernel
theorem dX5_pick_35 : decode cX5_pick 35 = .ok (.iload_n 2, 1) := by decide +kernel
theorem dX5_pick_36 : decode cX5_pick 36 = .ok (.istore_n 2, 1) := by decide +kernel
theorem dX5_pick_37 : decode cX5_pick 37 = .ok (.iload_n 3, 1) := by decide +kernel
theorem dX5_pick_38 : decode cX5_pick 38 = .ok (.iload_n 0, 1) := by decide +kernel
theorem dX5_pick_39 : decode cX5_pick 39 = .ok (.iload 4, 2) := by decide +kernel
theorem dX5_pick_41 : decode cX5_pick 41 = .ok (.ishr, 1) := by decide +kernel
theorem dX5_pick_42 : decode cX5_pick 42 = .ok (.iconst 1, 1) := by decide +kernel
theorem dX5_pick_43 : decode cX5_pick 43 = .ok (.iand, 1) := by decide +kernel
theorem dX5_pick_44 : decode cX5_pick 44 = .ok (.iadd, 1) := by decide +kernel
theorem dX5_pick_45 : decode cX5_pick 45 = .ok (.istore_n 3, 1) := by decide +kernel
theorem dX5_pick_46 : decode cX5_pick 46 = .ok (.iinc 4 1, 3) := by decide +kernel
theorem dX5_pick_49 : decode cX5_pick 49 = .ok (.goto (-41), 3) := by decide +kernel
theorem dX5_pick_52 : decode cX5_pick 52 = .ok (.iload_n 2, 1) := by decide +kernel
theorem dX5_pick_53 : decode cX5_pick 53 = .ok (.ireturn, 1) := by decide +kernel
theorem dX5_sum_0 : decode cX5_sum 0 = .ok (.iconst 0, 1) := by decide +kernel
theorem dX5_sum_1 : decode cX5_sum 1 = .ok (.istore_n 2, 1) := by decide +kernel
theorem dX5_sum_2 : decode cX5_sum 2 = .ok (.iconst 0, 1) := by decide +kernel
theorem dX5_sum_3 : decode cX5_sum 3 = .ok (.istore_n 3, 1) := by decide +kernel
theorem dX5_sum_4 : decode cX5_sum 4 = .ok (.iload_n 3, 1) := by decide +kernel
theorem dX5_sum_5 : decode cX5_sum 5 = .ok (.bipush 6, 2) := by decide +kernel
theorem dX5_sum_7 : decode cX5_sum 7 = .ok (.if_icmp .ge 20, 3) := by decide +kernel
theorem dX5_sum_10 : decode cX5_sum 10 = .ok (.iload_n 2, 1) := by decide +kernel
theorem dX5_sum_11 : decode cX5_sum 11 = .ok (.aload_n 0, 1) := by decide +kernel
theorem dX5_sum_12 : decode cX5_sum 12 = .ok (.getfield 7, 3) := by decide +kernel
theorem dX5_sum_15 : decode cX5_sum 15 = .ok (.iload_n 1, 1) := by decide +kernel
theorem dX5_sum_16 : decode cX5_sum 16 = .ok (.iload_n 3, 1) := by decide +kernel
theorem dX5_sum_17 : decode cX5_sum 17 = .ok (.iadd, 1) := by decide +kernel
theorem dX5_sum_18 : decode cX5_sum 18 = .ok (.iaload, 1) := by decide +kernel
theorem dX5_sum_19 : decode cX5_sum 19 = .ok (.iadd, 1) := by decide +kernel
theorem dX5_sum_20 : decode cX5_sum 20 = .ok (.istore_n 2, 1) := by decide +kernel
theorem dX5_sum_21 : decode cX5_sum 21 = .ok (.iinc 3 1, 3) := by decide +kernel
theorem dX5_sum_24 : decode cX5_sum 24 = .ok (.goto (-20), 3) := by decide +kernel
theorem dX5_sum_27 : decode cX5_sum 27 = .ok (.iload_n 2, 1) := by decide +kernel
theorem dX5_sum_28 : decode cX5_sum 28 = .ok (.ireturn, 1) := by decide +kernel
set_option maxRecDepth 20000 in
theorem ggX5_draw_X5_in : GoodIn wsX5_draw wsX5_in := goodIn_r _ [9] (by decide +kernel) (by decide +kernel)
set_option maxRecDepth 20000 in
theorem gX5_draw_X5_in : GoodIn wsX5_draw (va_wsS RX5 47 yX5_in wsX5_in) := goodIn_app (goodIn_of _ (by decide +kernel)) ggX5_draw_X5_in
set_option maxRecDepth 20000 in
theorem ggX5_draw_X5_record : GoodIn wsX5_draw wsX5_record := goodIn_r _ [13, 14, 15, 1, 16, 17, 8, 18, 68, 69, 70, 71, 72, 73, 74, 75, 76, 77, 78, 79, 80, 81, 82, 83, 84, 85] (by decide +kernel) (by decide +kernel)
set_option maxRecDepth 20000 in
theorem gX5_draw_X5_record : GoodIn wsX5_draw (wsV RX5 67 RX5 yX5_record wsX5_record) := goodIn_app (goodIn_of _ (by decide +kernel)) ggX5_draw_X5_record
set_option maxRecDepth 20000 in
theorem ggX5_draw_X5_sum : GoodIn wsX5_draw wsX5_sum := goodIn_r _ [22, 1, 68, 69, 70, 71, 72, 73, 74, 75, 76, 77, 78, 79, 80, 81, 82, 83, 84, 85] (by decide +kernel) (by decide +kernel)
set_option maxRecDepth 20000 in
theorem gX5_draw_X5_sum : GoodIn wsX5_draw (wsV RX5 106 RX5 yX5_sum wsX5_sum) := goodIn_app (goodIn_of _ (by decide +kernel)) ggX5_draw_X5_sum
set_option maxRecDepth 20000 in
theorem ggX5_draw_X5_bits : GoodIn wsX5_draw wsX5_bits := goodIn_r _ [25] (by decide +kernel) (by decide +kernel)
set_option maxRecDepth 20000 in
theorem gX5_draw_X5_bits : GoodIn wsX5_draw (va_wsS RX5 116 yX5_bits wsX5_bits) := goodIn_app (goodIn_of _ (by decide +kernel)) ggX5_draw_X5_bits
set_option maxRecDepth 20000 in
theorem ggX5_draw_X5_pick : GoodIn wsX5_draw wsX5_pick := goodIn_r _ [28] (by decide +kernel) (by decide +kernel)
set_option maxRecDepth 20000 in
theorem gX5_draw_X5_pick : GoodIn wsX5_draw (va_wsS RX5 119 yX5_pick wsX5_pick) := goodIn_app (goodIn_of _ (by decide +kernel)) ggX5_draw_X5_pick
set_option maxRecDepth 20000 in
theorem ggX5_draw_X5_makeStep : GoodIn wsX5_draw wsX5_makeStep := goodIn_r _ [32, 1, 33, 34, 35, 8, 36, 37, 38, 39, 40, 41, 42, 43, 44, 45, 46, 47, 48, 49, 50, 51, 52, 53, 54, 55, 56, 57, 58, 59, 60, 61, 62, 63, 64, 65, 66, 67, 68, 69, 70, 71, 72, 73, 74, 75, 76, 77, 78, 79, 80, 81, 82, 83, 84, 85] (by decide +kernel) (by decide +kernel)
set_option maxRecDepth 20000 in
theorem gX5_draw_X5_makeStep : GoodIn wsX5_draw (wsV RX5 103 RX5 yX5_makeStep wsX5_makeStep) := goodIn_app (goodIn_of _ (by decide +kernel)) ggX5_draw_X5_makeStep
theorem dX5_draw_0 : decode cX5_draw 0 = .ok (.iload_n 1, 1) := by decide +kernel
theorem dX5_draw_1 : decode cX5_draw 1 = .ok (.iconst 1, 1) := by decide +kernel
theorem dX5_draw_2 : decode cX5_draw 2 = .ok (.bipush 63, 2) := by decide +kernel
theorem dX5_draw_4 : decode cX5_draw 4 = .ok (.invokestatic 47, 3) := by decide +kernel
theorem dX5_draw_7 : decode cX5_draw 7 = .ok (.ifCond .eq 14, 3) := by decide +kernel
theorem dX5_draw_10 : decode cX5_draw 10 = .ok (.iload_n 2, 1) := by decide +kernel
theorem dX5_draw_11 : decode cX5_draw 11 = .ok (.iconst 1, 1) := by decide +kernel
theorem dX5_draw_12 : decode cX5_draw 12 = .ok (.sipush 200, 3) := by decide +kernel
theorem dX5_draw_15 : decode cX5_draw 15 = .ok (.invokestatic 47, 3) := by decide +kernel
theorem dX5_draw_18 : decode cX5_draw 18 = .ok (.ifCond .ne 6, 3) := by decide +kernel
theorem dX5_draw_21 : decode cX5_draw 21 = .ok (.bipush (-2), 2) := by decide +kernel
theorem dX5_draw_23 : decode cX5_draw 23 = .ok (.ireturn, 1) := by decide +kernel
theorem dX5_draw_24 : decode cX5_draw 24 = .ok (.aload_n 0, 1) := by decide +kernel
theorem dX5_draw_25 : decode cX5_draw 25 = .ok (.invokevirtual 67, 3) := by decide +kernel
theorem dX5_draw_28 : decode cX5_draw 28 = .ok (.aload_n 0, 1) := by decide +kernel
theorem dX5_draw_29 : decode cX5_draw 29 = .ok (.bipush 74, 2) := by decide +kernel
theorem dX5_draw_31 : decode cX5_draw 31 = .ok (.invokevirtual 106, 3) := by decide +kernel
theorem dX5_draw_34 : decode cX5_draw 34 = .ok (.istore_n 3, 1) := by decide +kernel
theorem dX5_draw_35 : decode cX5_draw 35 = .ok (.iconst 0, 1) := by decide +kernel
theorem dX5_draw_36 : decode cX5_draw 36 = .ok (.istore 4, 2) := by decide +kernel
theorem dX5_draw_38 : decode cX5_draw 38 = .ok (.iload 4, 2) := by decide +kernel
theorem dX5_draw_40 : decode cX5_draw 40 = .ok (.iload_n 2, 1) := by decide +kernel
theorem dX5_draw_41 : decode cX5_draw 41 = .ok (.if_icmp .ge 60, 3) := by decide +kernel
theorem dX5_draw_44 : decode cX5_draw 44 = .ok (.aload_n 0, 1) := by decide +kernel
theorem dX5_draw_45 : decode cX5_draw 45 = .ok (.getfield 7, 3) := by decide +kernel
theorem dX5_draw_48 : decode cX5_draw 48 = .ok (.bipush 61, 2) := by decide +kernel
theorem dX5_draw_50 : decode cX5_draw 50 = .ok (.aload_n 0, 1) := by decide +kernel
theorem dX5_draw_51 : decode cX5_draw 51 = .ok (.getfield 7, 3) := by decide +kernel
theorem dX5_draw_54 : decode cX5_draw 54 = .ok (.bipush 61, 2) := by decide +kernel
theorem dX5_draw_56 : decode cX5_draw 56 = .ok (.iaload, 1) := by decide +kernel
theorem dX5_draw_57 : decode cX5_draw 57 = .ok (.i2l, 1) := by decide +kernel
theorem dX5_draw_58 : decode cX5_draw 58 = .ok (.ldc2_w 109, 3) := by decide +kernel
theorem dX5_draw_61 : decode cX5_draw 61 = .ok (.lmul, 1) := by decide +kernel
theorem dX5_draw_62 : decode cX5_draw 62 = .ok (.ldc2_w 111, 3) := by decide +kernel
theorem dX5_draw_65 : decode cX5_draw 65 = .ok (.ladd, 1) := by decide +kernel
theorem dX5_draw_66 : decode cX5_draw 66 = .ok (.ldc2_w 113, 3) := by decide +kernel
theorem dX5_draw_69 : decode cX5_draw 69 = .ok (.lrem, 1) := by decide +kernel
theorem dX5_draw_70 : decode cX5_draw 70 = .ok (.l2i, 1) := by decide +kernel
theorem dX5_draw_71 : decode cX5_draw 71 = .ok (.iastore, 1) := by decide +kernel
theorem dX5_draw_72 : decode cX5_draw 72 = .ok (.aload_n 0, 1) := by decide +kernel
theorem dX5_draw_73 : decode cX5_draw 73 = .ok (.iload_n 1, 1) := by decide +kernel
theorem dX5_draw_74 : decode cX5_draw 74 = .ok (.aload_n 0, 1) := by decide +kernel
theorem dX5_draw_75 : decode cX5_draw 75 = .ok (.getfield 7, 3) := by decide +kernel
theorem dX5_draw_78 : decode cX5_draw 78 = .ok (.bipush 61, 2) := by decide +kernel
theorem dX5_draw_80 : decode cX5_draw 80 = .ok (.iaload, 1) := by decide +kernel
theorem dX5_draw_81 : decode cX5_draw 81 = .ok (.ldc 115, 2) := by decide +kernel
theorem dX5_draw_83 : decode cX5_draw 83 = .ok (.idiv, 1) := by decide +kernel
theorem dX5_draw_84 : decode cX5_draw 84 = .ok (.iload_n 1, 1) := by decide +kernel
theorem dX5_draw_85 : decode cX5_draw 85 = .ok (.invokestatic 116, 3) := by decide +kernel
theorem dX5_draw_88 : decode cX5_draw 88 = .ok (.irem, 1) := by decide +kernel
theorem dX5_draw_89 : decode cX5_draw 89 = .ok (.invokestatic 119, 3) := by decide +kernel
theorem dX5_draw_92 : decode cX5_draw 92 = .ok (.invokevirtual 103, 3) := by decide +kernel
theorem dX5_draw_95 : decode cX5_draw 95 = .ok (.iinc 4 1, 3) := by decide +kernel
theorem dX5_draw_98 : decode cX5_draw 98 = .ok (.goto (-60), 3) := by decide +kernel
theorem dX5_draw_101 : decode cX5_draw 101 = .ok (.aload_n 0, 1) := by decide +kernel
theorem dX5_draw_102 : decode cX5_draw 102 = .ok (.bipush 74, 2) := by decide +kernel
theorem dX5_draw_104 : decode cX5_draw 104 = .ok (.invokevirtual 106, 3) := by decide +kernel
theorem dX5_draw_107 : decode cX5_draw 107 = .ok (.iload_n 3, 1) := by decide +kernel
theorem dX5_draw_108 : decode cX5_draw 108 = .ok (.isub, 1) := by decide +kernel
theorem dX5_draw_109 : decode cX5_draw 109 = .ok (.ireturn, 1) := by decide +kernel
set_option maxRecDepth 20000 in
theorem ggX5_shuffle_X5_record : GoodIn wsX5_shuffle wsX5_record := goodIn_r _ [6, 7, 8, 1, 9, 10, 5, 11, 12, 13, 14, 15, 16, 17, 18, 19, 20, 21, 22, 23, 24, 25, 26, 27, 28, 29] (by decide +kernel) (by decide +kernel)
set_option maxRecDepth 20000 in
theorem gX5_shuffle_X5_record : GoodIn wsX5_shuffle (wsV RX5 67 RX5 yX5_record wsX5_record) := goodIn_app (goodIn_of _ (by decide +kernel)) ggX5_shuffle_X5_record
theorem dX5_shuffle_0 : decode cX5_shuffle 0 = .ok (.iload_n 1, 1) := by decide +kernel
theorem dX5_shuffle_1 : decode cX5_shuffle 1 = .ok (.ifCond .ge 6, 3) := by decide +kernel
theorem dX5_shuffle_4 : decode cX5_shuffle 4 = .ok (.bipush (-2), 2) := by decide +kernel
theorem dX5_shuffle_6 : decode cX5_shuffle 6 = .ok (.ireturn, 1) := by decide +kernel
theorem dX5_shuffle_7 : decode cX5_shuffle 7 = .ok (.iload_n 1, 1) := by decide +kernel
theorem dX5_shuffle_8 : decode cX5_shuffle 8 = .ok (.aload_n 0, 1) := by decide +kernel
theorem dX5_shuffle_9 : decode cX5_shuffle 9 = .ok (.getfield 7, 3) := by decide +kernel
theorem dX5_shuffle_12 : decode cX5_shuffle 12 = .ok (.bipush 61, 2) := by decide +kernel
theorem dX5_shuffle_14 : decode cX5_shuffle 14 = .ok (.iaload, 1) := by decide +kernel
theorem dX5_shuffle_15 : decode cX5_shuffle 15 = .ok (.if_icmp .ne 6, 3) := by decide +kernel
theorem dX5_shuffle_18 : decode cX5_shuffle 18 = .ok (.bipush (-5), 2) := by decide +kernel
theorem dX5_shuffle_20 : decode cX5_shuffle 20 = .ok (.ireturn, 1) := by decide +kernel
theorem dX5_shuffle_21 : decode cX5_shuffle 21 = .ok (.aload_n 0, 1) := by decide +kernel
theorem dX5_shuffle_22 : decode cX5_shuffle 22 = .ok (.invokevirtual 67, 3) := by decide +kernel
theorem dX5_shuffle_25 : decode cX5_shuffle 25 = .ok (.aload_n 0, 1) := by decide +kernel
theorem dX5_shuffle_26 : decode cX5_shuffle 26 = .ok (.getfield 7, 3) := by decide +kernel
theorem dX5_shuffle_29 : decode cX5_shuffle 29 = .ok (.bipush 61, 2) := by decide +kernel
theorem dX5_shuffle_31 : decode cX5_shuffle 31 = .ok (.iaload, 1) := by decide +kernel
theorem dX5_shuffle_32 : decode cX5_shuffle 32 = .ok (.istore_n 2, 1) := by decide +kernel
theorem dX5_shuffle_33 : decode cX5_shuffle 33 = .ok (.aload_n 0, 1) := by decide +kernel
theorem dX5_shuffle_34 : decode cX5_shuffle 34 = .ok (.getfield 7, 3) := by decide +kernel
theorem dX5_shuffle_37 : decode cX5_shuffle 37 = .ok (.bipush 61, 2) := by decide +kernel
theorem dX5_shuffle_39 : decode cX5_shuffle 39 = .ok (.iload_n 1, 1) := by decide +kernel
theorem dX5_shuffle_40 : decode cX5_shuffle 40 = .ok (.iastore, 1) := by decide +kernel
theorem dX5_shuffle_41 : decode cX5_shuffle 41 = .ok (.iload_n 2, 1) := by decide +kernel
theorem dX5_shuffle_42 : decode cX5_shuffle 42 = .ok (.ireturn, 1) := by decide +kernel
set_option maxRecDepth 20000 in
theorem ggX5_finishAll_X5_sum : GoodIn wsX5_finishAll wsX5_sum := goodIn_r _ [6, 1, 50, 51, 52, 53, 54, 55, 56, 57, 58, 59, 60, 61, 62, 63, 64, 65, 66, 67] (by decide +kernel) (by decide +kernel)
set_option maxRecDepth 20000 in
theorem gX5_finishAll_X5_sum : GoodIn wsX5_finishAll (wsV RX5 106 RX5 yX5_sum wsX5_sum) := goodIn_app (goodIn_of _ (by decide +kernel)) ggX5_finishAll_X5_sum
set_option maxRecDepth 20000 in
theorem ggX5_finishAll_X5_notAway : GoodIn wsX5_finishAll wsX5_notAway := goodIn_r _ [10, 1, 50, 51, 52, 53, 54, 55, 56, 57, 58, 59, 60, 61, 62, 63, 64, 65, 66, 67] (by decide +kernel) (by decide +kernel)
set_option maxRecDepth 20000 in
theorem gX5_finishAll_X5_notAway : GoodIn wsX5_finishAll (wsV RX5 63 RX5 yX5_notAway wsX5_notAway) := goodIn_app (goodIn_of _ (by decide +kernel)) ggX5_finishAll_X5_notAway
set_option maxRecDepth 20000 in
theorem ggX5_finishAll_X5_makeStep : GoodIn wsX5_finishAll wsX5_makeStep := goodIn_r _ [14, 1, 15, 16, 17, 5, 18, 19, 20, 21, 22, 23, 24, 25, 26, 27, 28, 29, 30, 31, 32, 33, 34, 35, 36, 37, 38, 39, 40, 41, 42, 43, 44, 45, 46, 47, 48, 49, 50, 51, 52, 53, 54, 55, 56, 57, 58, 59, 60, 61, 62, 63, 64, 65, 66, 67] (by decide +kernel) (by decide +kernel)
set_option maxRecDepth 20000 in
theorem gX5_finishAll_X5_makeStep : GoodIn wsX5_finishAll (wsV RX5 103 RX5 yX5_makeStep wsX5_makeStep) := goodIn_app (goodIn_of _ (by decide +kernel)) ggX5_finishAll_X5_makeStep
theorem dX5_finishAll_0 : decode cX5_finishAll 0 = .ok (.aload_n 0, 1) := by decide +kernel
theorem dX5_finishAll_1 : decode cX5_finishAll 1 = .ok (.bipush 62, 2) := by decide +kernel
theorem dX5_finishAll_3 : decode cX5_finishAll 3 = .ok (.invokevirtual 106, 3) := by decide +kernel
theorem dX5_finishAll_6 : decode cX5_finishAll 6 = .ok (.istore_n 1, 1) := by decide +kernel
theorem dX5_finishAll_7 : decode cX5_finishAll 7 = .ok (.aload_n 0, 1) := by decide +kernel
theorem dX5_finishAll_8 : decode cX5_finishAll 8 = .ok (.invokevirtual 63, 3) := by decide +kernel
theorem dX5_finishAll_11 : decode cX5_finishAll 11 = .ok (.ifCond .le 36, 3) := by decide +kernel
theorem dX5_finishAll_14 : decode cX5_finishAll 14 = .ok (.iconst 0, 1) := by decide +kernel
theorem dX5_finishAll_15 : decode cX5_finishAll 15 = .ok (.istore_n 2, 1) := by decide +kernel
theorem dX5_finishAll_16 : decode cX5_finishAll 16 = .ok (.iload_n 2, 1) := by decide +kernel
theorem dX5_finishAll_17 : decode cX5_finishAll 17 = .ok (.bipush 6, 2) := by decide +kernel
theorem dX5_finishAll_19 : decode cX5_finishAll 19 = .ok (.if_icmp .ge 25, 3) := by decide +kernel
theorem dX5_finishAll_22 : decode cX5_finishAll 22 = .ok (.aload_n 0, 1) := by decide +kernel
theorem dX5_finishAll_23 : decode cX5_finishAll 23 = .ok (.getfield 7, 3) := by decide +kernel
theorem dX5_finishAll_26 : decode cX5_finishAll 26 = .ok (.iconst 0, 1) := by decide +kernel
theorem dX5_finishAll_27 : decode cX5_finishAll 27 = .ok (.iload_n 2, 1) := by decide +kernel
theorem dX5_finishAll_28 : decode cX5_finishAll 28 = .ok (.iadd, 1) := by decide +kernel
theorem dX5_finishAll_29 : decode cX5_finishAll 29 = .ok (.iaload, 1) := by decide +kernel
theorem dX5_finishAll_30 : decode cX5_finishAll 30 = .ok (.ifCond .eq 8, 3) := by decide +kernel
theorem dX5_finishAll_33 : decode cX5_finishAll 33 = .ok (.aload_n 0, 1) := by decide +kernel
theorem dX5_finishAll_34 : decode cX5_finishAll 34 = .ok (.iload_n 2, 1) := by decide +kernel
theorem dX5_finishAll_35 : decode cX5_finishAll 35 = .ok (.invokevirtual 103, 3) := by decide +kernel
theorem dX5_finishAll_38 : decode cX5_finishAll 38 = .ok (.iinc 2 1, 3) := by decide +kernel
theorem dX5_finishAll_41 : decode cX5_finishAll 41 = .ok (.goto (-25), 3) := by decide +kernel
theorem dX5_finishAll_44 : decode cX5_finishAll 44 = .ok (.goto (-37), 3) := by decide +kernel
theorem dX5_finishAll_47 : decode cX5_finishAll 47 = .ok (.aload_n 0, 1) := by decide +kernel
theorem dX5_finishAll_48 : decode cX5_finishAll 48 = .ok (.bipush 62, 2) := by decide +kernel
theorem dX5_finishAll_50 : decode cX5_finishAll 50 = .ok (.invokevirtual 106, 3) := by decide +kernel
theorem dX5_finishAll_53 : decode cX5_finishAll 53 = .ok (.iload_n 1, 1) := by decide +kernel
theorem dX5_finishAll_54 : decode cX5_finishAll 54 = .ok (.isub, 1) := by decide +kernel
theorem dX5_finishAll_55 : decode cX5_finishAll 55 = .ok (.ireturn, 1) := by decide +kernel
set_option maxRecDepth 20000 in
theorem ggX5_finish_X5_notAway : GoodIn wsX5_finish wsX5_notAway := goodIn_r _ [5, 6, 63, 64, 65, 66, 67, 68, 69, 70, 71, 72, 73, 74, 75, 76, 77, 78, 79, 80] (by decide +kernel) (by decide +kernel)
set_option maxRecDepth 20000 in
theorem gX5_finish_X5_notAway : GoodIn wsX5_finish (wsV RX5 63 RX5 yX5_notAway wsX5_notAway) := goodIn_app (goodIn_of _ (by decide +kernel)) ggX5_finish_X5_notAway
set_option maxRecDepth 20000 in
theorem ggX5_finish_X5_record : GoodIn wsX5_finish wsX5_record := goodIn_r _ [10, 11, 12, 6, 13, 14, 4, 15, 63, 64, 65, 66, 67, 68, 69, 70, 71, 72, 73, 74, 75, 76, 77, 78, 79, 80] (by decide +kernel) (by decide +kernel)
set_option maxRecDepth 20000 in
theorem gX5_finish_X5_record : GoodIn wsX5_finish (wsV RX5 67 RX5 yX5_record wsX5_record) := goodIn_app (goodIn_of _ (by decide +kernel)) ggX5_finish_X5_record
set_option maxRecDepth 20000 in
theorem ggX5_finish_X5_finishAll : GoodIn wsX5_finish wsX5_finishAll := goodIn_r _ [19, 6, 20, 21, 22, 4, 23, 1, 2, 3, 5, 24, 25, 26, 27, 28, 29, 30, 31, 32, 33, 34, 35, 36, 37, 38, 39, 40, 41, 42, 43, 44, 45, 46, 47, 48, 49, 50, 51, 52, 53, 54, 55, 56, 57, 58, 59, 60, 61, 62, 63, 64, 65, 66, 67, 68, 69, 70, 71, 72, 73, 74, 75, 76, 77, 78, 79, 80] (by decide +kernel) (by decide +kernel)
set_option maxRecDepth 20000 in
theorem gX5_finish_X5_finishAll : GoodIn wsX5_finish (wsV RX5 122 RX5 yX5_finishAll wsX5_finishAll) := goodIn_app (goodIn_of _ (by decide +kernel)) ggX5_finish_X5_finishAll
theorem dX5_finish_0 : decode cX5_finish 0 = .ok (.aload_n 0, 1) := by decide +kernel
theorem dX5_finish_1 : decode cX5_finish 1 = .ok (.invokevirtual 63, 3) := by decide +kernel
theorem dX5_finish_4 : decode cX5_finish 4 = .ok (.ifCond .ne 6, 3) := by decide +kernel
theorem dX5_finish_7 : decode cX5_finish 7 = .ok (.bipush (-5), 2) := by decide +kernel
theorem dX5_finish_9 : decode cX5_finish 9 = .ok (.ireturn, 1) := by decide +kernel
theorem dX5_finish_10 : decode cX5_finish 10 = .ok (.aload_n 0, 1) := by decide +kernel
theorem dX5_finish_11 : decode cX5_finish 11 = .ok (.invokevirtual 67, 3) := by decide +kernel
theorem dX5_finish_14 : decode cX5_finish 14 = .ok (.aload_n 0, 1) := by decide +kernel
theorem dX5_finish_15 : decode cX5_finish 15 = .ok (.invokevirtual 122, 3) := by decide +kernel
theorem dX5_finish_18 : decode cX5_finish 18 = .ok (.ireturn, 1) := by decide +kernel
set_option maxRecDepth 20000 in
theorem ggX5_stepsToFinish_X5_copyRow : GoodIn wsX5_stepsToFinish wsX5_copyRow := goodIn_r _ [6] (by decide +kernel) (by decide +kernel)
set_option maxRecDepth 20000 in
theorem gX5_stepsToFinish_X5_copyRow : GoodIn wsX5_stepsToFinish (va_wsS RX5 55 yX5_copyRow wsX5_copyRow) := goodIn_app (goodIn_of _ (by decide +kernel)) ggX5_stepsToFinish_X5_copyRow
set_option maxRecDepth 20000 in
theorem ggX5_stepsToFinish_X5_finishAll : GoodIn wsX5_stepsToFinish wsX5_finishAll := goodIn_r _ [10, 1, 11, 12, 13, 5, 14, 15, 16, 17, 18, 19, 20, 21, 22, 23, 24, 25, 26, 27, 28, 29, 30, 31, 32, 33, 34, 35, 36, 37, 38, 39, 40, 41, 42, 43, 44, 45, 46, 47, 48, 49, 50, 51, 52, 53, 54, 55, 56, 57, 58, 59, 60, 61, 62, 63, 64, 65, 66, 67, 68, 69, 70, 71, 72, 73, 74, 75] (by decide +kernel) (by decide +kernel)
set_option maxRecDepth 20000 in
theorem gX5_stepsToFinish_X5_finishAll : GoodIn wsX5_stepsToFinish (wsV RX5 122 RX5 yX5_finishAll wsX5_finishAll) := goodIn_app (goodIn_of _ (by decide +kernel)) ggX5_stepsToFinish_X5_finishAll
theorem dX5_stepsToFinish_0 : decode cX5_stepsToFinish 0 = .ok (.aload_n 0, 1) := by decide +kernel
theorem dX5_stepsToFinish_1 : decode cX5_stepsToFinish 1 = .ok (.getfield 7, 3) := by decide +kernel
theorem dX5_stepsToFinish_4 : decode cX5_stepsToFinish 4 = .ok (.iconst 0, 1) := by decide +kernel
theorem dX5_stepsToFinish_5 : decode cX5_stepsToFinish 5 = .ok (.aload_n 0, 1) := by decide +kernel
theorem dX5_stepsToFinish_6 : decode cX5_stepsToFinish 6 = .ok (.getfield 13, 3) := by decide +kernel
theorem dX5_stepsToFinish_9 : decode cX5_stepsToFinish 9 = .ok (.iconst 0, 1) := by decide +kernel
theorem dX5_stepsToFinish_10 : decode cX5_stepsToFinish 10 = .ok (.bipush 86, 2) := by decide +kernel
theorem dX5_stepsToFinish_12 : decode cX5_stepsToFinish 12 = .ok (.invokestatic 55, 3) := by decide +kernel
theorem dX5_stepsToFinish_15 : decode cX5_stepsToFinish 15 = .ok (.aload_n 0, 1) := by decide +kernel
theorem dX5_stepsToFinish_16 : decode cX5_stepsToFinish 16 = .ok (.invokevirtual 122, 3) := by decide +kernel
theorem dX5_stepsToFinish_19 : decode cX5_stepsToFinish 19 = .ok (.istore_n 1, 1) := by decide +kernel
theorem dX5_stepsToFinish_20 : decode cX5_stepsToFinish 20 = .ok (.aload_n 0, 1) := by decide +kernel
theorem dX5_stepsToFinish_21 : decode cX5_stepsToFinish 21 = .ok (.getfield 13, 3) := by decide +kernel
theorem dX5_stepsToFinish_24 : decode cX5_stepsToFinish 24 = .ok (.iconst 0, 1) := by decide +kernel
theorem dX5_stepsToFinish_25 : decode cX5_stepsToFinish 25 = .ok (.aload_n 0, 1) := by decide +kernel
theorem dX5_stepsToFinish_26 : decode cX5_stepsToFinish 26 = .ok (.getfield 7, 3) := by decide +kernel
theorem dX5_stepsToFinish_29 : decode cX5_stepsToFinish 29 = .ok (.iconst 0, 1) := by decide +kernel
theorem dX5_stepsToFinish_30 : decode cX5_stepsToFinish 30 = .ok (.bipush 86, 2) := by decide +kernel
theorem dX5_stepsToFinish_32 : decode cX5_stepsToFinish 32 = .ok (.invokestatic 55, 3) := by decide +kernel
theorem dX5_stepsToFinish_35 : decode cX5_stepsToFinish 35 = .ok (.iload_n 1, 1) := by decide +kernel
theorem dX5_stepsToFinish_36 : decode cX5_stepsToFinish 36 = .ok (.ireturn, 1) := by decide +kernel
theorem dX5_type_0 : decode cX5_type 0 = .ok (.aload_n 0, 1) := by decide +kernel
theorem dX5_type_1 : decode cX5_type 1 = .ok (.getfield 125, 3) := by decide +kernel
theorem dX5_type_4 : decode cX5_type 4 = .ok (.bipush 60, 2) := by decide +kernel
theorem dX5_type_6 : decode cX5_type 6 = .ok (.if_icmp .ne 6, 3) := by decide +kernel
theorem dX5_type_9 : decode cX5_type 9 = .ok (.bipush (-3), 2) := by decide +kernel
theorem dX5_type_11 : decode cX5_type 11 = .ok (.ireturn, 1) := by decide +kernel
theorem dX5_type_12 : decode cX5_type 12 = .ok (.aload_n 0, 1) := by decide +kernel
theorem dX5_type_13 : decode cX5_type 13 = .ok (.getfield 22, 3) := by decide +kernel
theorem dX5_type_16 : decode cX5_type 16 = .ok (.aload_n 0, 1) := by decide +kernel
theorem dX5_type_17 : decode cX5_type 17 = .ok (.getfield 125, 3) := by decide +kernel
theorem dX5_type_20 : decode cX5_type 20 = .ok (.iload_n 1, 1) := by decide +kernel
theorem dX5_type_21 : decode cX5_type 21 = .ok (.iastore, 1) := by decide +kernel
theorem dX5_type_22 : decode cX5_type 22 = .ok (.aload_n 0, 1) := by decide +kernel
theorem dX5_type_23 : decode cX5_type 23 = .ok (.dup, 1) := by decide +kernel
theorem dX5_type_24 : decode cX5_type 24 = .ok (.getfield 125, 3) := by decide +kernel
theorem dX5_type_27 : decode cX5_type 27 = .ok (.iconst 1, 1) := by decide +kernel
theorem dX5_type_28 : decode cX5_type 28 = .ok (.iadd, 1) := by decide +kernel
theorem dX5_type_29 : decode cX5_type 29 = .ok (.putfield 125, 3) := by decide +kernel
theorem dX5_type_32 : decode cX5_type 32 = .ok (.aload_n 0, 1) := by decide +kernel
theorem dX5_type_33 : decode cX5_type 33 = .ok (.getfield 125, 3) := by decide +kernel
theorem dX5_type_36 : decode cX5_type 36 = .ok (.ireturn, 1) := by decide +kernel
theorem dX5_clearText_0 : decode cX5_clearText 0 = .ok (.aload_n 0, 1) := by decide +kernel
theorem dX5_clearText_1 : decode cX5_clearText 1 = .ok (.getfield 125, 3) := by decide +kernel
theorem dX5_clearText_4 : decode cX5_clearText 4 = .ok (.istore_n 1, 1) := by decide +kernel
theorem dX5_clearText_5 : decode cX5_clearText 5 = .ok (.aload_n 0, 1) := by decide +kernel
theorem dX5_clearText_6 : decode cX5_clearText 6 = .ok (.iconst 0, 1) := by decide +kernel
theorem dX5_clearText_7 : decode cX5_clearText 7 = .ok (.putfield 125, 3) := by decide +kernel
theorem dX5_clearText_10 : decode cX5_clearText 10 = .ok (.iload_n 1, 1) := by decide +kernel
theorem dX5_clearText_11 : decode cX5_clearText 11 = .ok (.ireturn, 1) := by decide +kernel
theorem dX5_atMost_0 : decode cX5_atMost 0 = .ok (.iload_n 0, 1) := by decide +kernel
theorem dX5_atMost_1 : decode cX5_atMost 1 = .ok (.sipush 2000, 3) := by decide +kernel
theorem dX5_atMost_4 : decode cX5_atMost 4 = .ok (.if_icmp .le 9, 3) := by decide +kernel
theorem dX5_atMost_7 : decode cX5_atMost 7 = .ok (.sipush 2001, 3) := by decide +kernel
theorem dX5_atMost_10 : decode cX5_atMost 10 = .ok (.goto 4, 3) := by decide +kernel
theorem dX5_atMost_13 : decode cX5_atMost 13 = .ok (.iload_n 0, 1) := by decide +kernel
theorem dX5_atMost_14 : decode cX5_atMost 14 = .ok (.ireturn, 1) := by decide +kernel
set_option maxRecDepth 20000 in
theorem ggX5_read_X5_in : GoodIn wsX5_read wsX5_in := goodIn_r _ [10] (by decide +kernel) (by decide +kernel)
set_option maxRecDepth 20000 in
theorem gX5_read_X5_in : GoodIn wsX5_read (va_wsS RX5 47 yX5_in wsX5_in) := goodIn_app (goodIn_of _ (by decide +kernel)) ggX5_read_X5_in
set_option maxRecDepth 20000 in
theorem ggX5_read_X5_atMost : GoodIn wsX5_read wsX5_atMost := goodIn_r _ [13] (by decide +kernel) (by decide +kernel)
set_option maxRecDepth 20000 in
theorem gX5_read_X5_atMost : GoodIn wsX5_read (va_wsS RX5 128 yX5_atMost wsX5_atMost) := goodIn_app (goodIn_of _ (by decide +kernel)) ggX5_read_X5_atMost
theorem dX5_read_0 : decode cX5_read 0 = .ok (.iconst 0, 1) := by decide +kernel
theorem dX5_read_1 : decode cX5_read 1 = .ok (.istore_n 1, 1) := by decide +kernel
theorem dX5_read_2 : decode cX5_read 2 = .ok (.iconst 0, 1) := by decide +kernel
theorem dX5_read_3 : decode cX5_read 3 = .ok (.istore_n 2, 1) := by decide +kernel
theorem dX5_read_4 : decode cX5_read 4 = .ok (.aload_n 0, 1) := by decide +kernel
theorem dX5_read_5 : decode cX5_read 5 = .ok (.getfield 25, 3) := by decide +kernel
theorem dX5_read_8 : decode cX5_read 8 = .ok (.iconst 0, 1) := by decide +kernel
theorem dX5_read_9 : decode cX5_read 9 = .ok (.iconst 0, 1) := by decide +kernel
theorem dX5_read_10 : decode cX5_read 10 = .ok (.iastore, 1) := by decide +kernel
theorem dX5_read_11 : decode cX5_read 11 = .ok (.aload_n 0, 1) := by decide +kernel
theorem dX5_read_12 : decode cX5_read 12 = .ok (.getfield 28, 3) := by decide +kernel
theorem dX5_read_15 : decode cX5_read 15 = .ok (.iconst 0, 1) := by decide +kernel
theorem dX5_read_16 : decode cX5_read 16 = .ok (.iconst 0, 1) := by decide +kernel
theorem dX5_read_17 : decode cX5_read 17 = .ok (.iastore, 1) := by decide +kernel
theorem dX5_read_18 : decode cX5_read 18 = .ok (.iconst 0, 1) := by decide +kernel
theorem dX5_read_19 : decode cX5_read 19 = .ok (.istore_n 3, 1) := by decide +kernel
theorem dX5_read_20 : decode cX5_read 20 = .ok (.iload_n 3, 1) := by decide +kernel
theorem dX5_read_21 : decode cX5_read 21 = .ok (.aload_n 0, 1) := by decide +kernel
theorem dX5_read_22 : decode cX5_read 22 = .ok (.getfield 125, 3) := by decide +kernel
theorem dX5_read_25 : decode cX5_read 25 = .ok (.if_icmp .ge 216, 3) := by decide +kernel
theorem dX5_read_28 : decode cX5_read 28 = .ok (.aload_n 0, 1) := by decide +kernel
theorem dX5_read_29 : decode cX5_read 29 = .ok (.getfield 22, 3) := by decide +kernel
theorem dX5_read_32 : decode cX5_read 32 = .ok (.iload_n 3, 1) := by decide +kernel
theorem dX5_read_33 : decode cX5_read 33 = .ok (.iaload, 1) := by decide +kernel
theorem dX5_read_34 : decode cX5_read 34 = .ok (.istore 4, 2) := by decide +kernel
theorem dX5_read_36 : decode cX5_read 36 = .ok (.iload 4, 2) := by decide +kernel
theorem dX5_read_38 : decode cX5_read 38 = .ok (.bipush 50, 2) := by decide +kernel
theorem dX5_read_40 : decode cX5_read 40 = .ok (.bipush 57, 2) := by decide +kernel
theorem dX5_read_42 : decode cX5_read 42 = .ok (.invokestatic 47, 3) := by decide +kernel
theorem dX5_read_45 : decode cX5_read 45 = .ok (.ifCond .eq 16, 3) := by decide +kernel
theorem dX5_read_48 : decode cX5_read 48 = .ok (.iload_n 2, 1) := by decide +kernel
theorem dX5_read_49 : decode cX5_read 49 = .ok (.ifCond .ne 12, 3) := by decide +kernel
theorem dX5_read_52 : decode cX5_read 52 = .ok (.iload 4, 2) := by decide +kernel
theorem dX5_read_54 : decode cX5_read 54 = .ok (.bipush 48, 2) := by decide +kernel
theorem dX5_read_56 : decode cX5_read 56 = .ok (.isub, 1) := by decide +kernel
theorem dX5_read_57 : decode cX5_read 57 = .ok (.istore_n 2, 1) := by decide +kernel
theorem dX5_read_58 : decode cX5_read 58 = .ok (.goto 177, 3) := by decide +kernel
theorem dX5_read_61 : decode cX5_read 61 = .ok (.iload 4, 2) := by decide +kernel
theorem dX5_read_63 : decode cX5_read 63 = .ok (.bipush 97, 2) := by decide +kernel
theorem dX5_read_65 : decode cX5_read 65 = .ok (.bipush 102, 2) := by decide +kernel
theorem dX5_read_67 : decode cX5_read 67 = .ok (.invokestatic 47, 3) := by decide +kernel
theorem dX5_read_70 : decode cX5_read 70 = .ok (.ifCond .eq 43, 3) := by decide +kernel
theorem dX5_read_73 : decode cX5_read 73 = .ok (.aload_n 0, 1) := by decide +kernel
theorem dX5_read_74 : decode cX5_read 74 = .ok (.getfield 25, 3) := by decide +kernel
theorem dX5_read_77 : decode cX5_read 77 = .ok (.iload_n 1, 1) := by decide +kernel
theorem dX5_read_78 : decode cX5_read 78 = .ok (.aload_n 0, 1) := by decide +kernel
theorem dX5_read_79 : decode cX5_read 79 = .ok (.getfield 25, 3) := by decide +kernel
theorem dX5_read_82 : decode cX5_read 82 = .ok (.iload_n 1, 1) := by decide +kernel
theorem dX5_read_83 : decode cX5_read 83 = .ok (.iaload, 1) := by decide +kernel
theorem dX5_read_84 : decode cX5_read 84 = .ok (.iload_n 2, 1) := by decide +kernel
theorem dX5_read_85 : decode cX5_read 85 = .ok (.ifCond .ne 7, 3) := by decide +kernel
theorem dX5_read_88 : decode cX5_read 88 = .ok (.iconst 1, 1) := by decide +kernel
theorem dX5_read_89 : decode cX5_read 89 = .ok (.goto 4, 3) := by decide +kernel
theorem dX5_read_92 : decode cX5_read 92 = .ok (.iload_n 2, 1) := by decide +kernel
theorem dX5_read_93 : decode cX5_read 93 = .ok (.iadd, 1) := by decide +kernel
theorem dX5_read_94 : decode cX5_read 94 = .ok (.invokestatic 128, 3) := by decide +kernel
theorem dX5_read_97 : decode cX5_read 97 = .ok (.iastore, 1) := by decide +kernel
theorem dX5_read_98 : decode cX5_read 98 = .ok (.aload_n 0, 1) := by decide +kernel
theorem dX5_read_99 : decode cX5_read 99 = .ok (.getfield 28, 3) := by decide +kernel
theorem dX5_read_102 : decode cX5_read 102 = .ok (.iload_n 1, 1) := by decide +kernel
theorem dX5_read_103 : decode cX5_read 103 = .ok (.dup2, 1) := by decide +kernel
theorem dX5_read_104 : decode cX5_read 104 = .ok (.iaload, 1) := by decide +kernel
theorem dX5_read_105 : decode cX5_read 105 = .ok (.iconst 1, 1) := by decide +kernel
theorem dX5_read_106 : decode cX5_read 106 = .ok (.iadd, 1) := by decide +kernel
theorem dX5_read_107 : decode cX5_read 107 = .ok (.iastore, 1) := by decide +kernel
theorem dX5_read_108 : decode cX5_read 108 = .ok (.iconst 0, 1) := by decide +kernel
theorem dX5_read_109 : decode cX5_read 109 = .ok (.istore_n 2, 1) := by decide +kernel
theorem dX5_read_110 : decode cX5_read 110 = .ok (.goto 125, 3) := by decide +kernel
theorem dX5_read_113 : decode cX5_read 113 = .ok (.iload 4, 2) := by decide +kernel
theorem dX5_read_115 : decode cX5_read 115 = .ok (.bipush 40, 2) := by decide +kernel
theorem dX5_read_117 : decode cX5_read 117 = .ok (.if_icmp .ne 40, 3) := by decide +kernel
theorem dX5_read_120 : decode cX5_read 120 = .ok (.iinc 1 1, 3) := by decide +kernel
theorem dX5_read_123 : decode cX5_read 123 = .ok (.aload_n 0, 1) := by decide +kernel
theorem dX5_read_124 : decode cX5_read 124 = .ok (.getfield 31, 3) := by decide +kernel
theorem dX5_read_127 : decode cX5_read 127 = .ok (.iload_n 1, 1) := by decide +kernel
theorem dX5_read_128 : decode cX5_read 128 = .ok (.iload_n 2, 1) := by decide +kernel
theorem dX5_read_129 : decode cX5_read 129 = .ok (.ifCond .ne 7, 3) := by decide +kernel
theorem dX5_read_132 : decode cX5_read 132 = .ok (.iconst 1, 1) := by decide +kernel
theorem dX5_read_133 : decode cX5_read 133 = .ok (.goto 4, 3) := by decide +kernel
theorem dX5_read_136 : decode cX5_read 136 = .ok (.iload_n 2, 1) := by decide +kernel
theorem dX5_read_137 : decode cX5_read 137 = .ok (.iastore, 1) := by decide +kernel
theorem dX5_read_138 : decode cX5_read 138 = .ok (.aload_n 0, 1) := by decide +kernel
theorem dX5_read_139 : decode cX5_read 139 = .ok (.getfield 25, 3) := by decide +kernel
theorem dX5_read_142 : decode cX5_read 142 = .ok (.iload_n 1, 1) := by decide +kernel
theorem dX5_read_143 : decode cX5_read 143 = .ok (.iconst 0, 1) := by decide +kernel
theorem dX5_read_144 : decode cX5_read 144 = .ok (.iastore, 1) := by decide +kernel
theorem dX5_read_145 : decode cX5_read 145 = .ok (.aload_n 0, 1) := by decide +kernel
theorem dX5_read_146 : decode cX5_read 146 = .ok (.getfield 28, 3) := by decide +kernel
theorem dX5_read_149 : decode cX5_read 149 = .ok (.iload_n 1, 1) := by decide +kernel
theorem dX5_read_150 : decode cX5_read 150 = .ok (.iconst 0, 1) := by decide +kernel
theorem dX5_read_151 : decode cX5_read 151 = .ok (.iastore, 1) := by decide +kernel
theorem dX5_read_152 : decode cX5_read 152 = .ok (.iconst 0, 1) := by decide +kernel
theorem dX5_read_153 : decode cX5_read 153 = .ok (.istore_n 2, 1) := by decide +kernel
theorem dX5_read_154 : decode cX5_read 154 = .ok (.goto 81, 3) := by decide +kernel
theorem dX5_read_157 : decode cX5_read 157 = .ok (.iload 4, 2) := by decide +kernel
theorem dX5_read_159 : decode cX5_read 159 = .ok (.bipush 41, 2) := by decide +kernel
theorem dX5_read_161 : decode cX5_read 161 = .ok (.if_icmp .ne 72, 3) := by decide +kernel
theorem dX5_read_164 : decode cX5_read 164 = .ok (.iload_n 1, 1) := by decide +kernel
theorem dX5_read_165 : decode cX5_read 165 = .ok (.ifCond .le 68, 3) := by decide +kernel
theorem dX5_read_168 : decode cX5_read 168 = .ok (.iload_n 2, 1) := by decide +kernel
theorem dX5_read_169 : decode cX5_read 169 = .ok (.ifCond .ne 64, 3) := by decide +kernel
theorem dX5_read_172 : decode cX5_read 172 = .ok (.aload_n 0, 1) := by decide +kernel
theorem dX5_read_173 : decode cX5_read 173 = .ok (.getfield 28, 3) := by decide +kernel
theorem dX5_read_176 : decode cX5_read 176 = .ok (.iload_n 1, 1) := by decide +kernel
theorem dX5_read_177 : decode cX5_read 177 = .ok (.iaload, 1) := by decide +kernel
theorem dX5_read_178 : decode cX5_read 178 = .ok (.ifCond .le 55, 3) := by decide +kernel
theorem dX5_read_181 : decode cX5_read 181 = .ok (.aload_n 0, 1) := by decide +kernel
theorem dX5_read_182 : decode cX5_read 182 = .ok (.getfield 25, 3) := by decide +kernel
theorem dX5_read_185 : decode cX5_read 185 = .ok (.iload_n 1, 1) := by decide +kernel
theorem dX5_read_186 : decode cX5_read 186 = .ok (.iaload, 1) := by decide +kernel
theorem dX5_read_187 : decode cX5_read 187 = .ok (.aload_n 0, 1) := by decide +kernel
theorem dX5_read_188 : decode cX5_read 188 = .ok (.getfield 31, 3) := by decide +kernel
theorem dX5_read_191 : decode cX5_read 191 = .ok (.iload_n 1, 1) := by decide +kernel
theorem dX5_read_192 : decode cX5_read 192 = .ok (.iaload, 1) := by decide +kernel
theorem dX5_read_193 : decode cX5_read 193 = .ok (.imul, 1) := by decide +kernel
theorem dX5_read_194 : decode cX5_read 194 = .ok (.invokestatic 128, 3) := by decide +kernel
theorem dX5_read_197 : decode cX5_read 197 = .ok (.istore 5, 2) := by decide +kernel
theorem dX5_read_199 : decode cX5_read 199 = .ok (.iinc 1 (-1), 3) := by decide +kernel
theorem dX5_read_202 : decode cX5_read 202 = .ok (.aload_n 0, 1) := by decide +kernel
theorem dX5_read_203 : decode cX5_read 203 = .ok (.getfield 25, 3) := by decide +kernel
theorem dX5_read_206 : decode cX5_read 206 = .ok (.iload_n 1, 1) := by decide +kernel
theorem dX5_read_207 : decode cX5_read 207 = .ok (.aload_n 0, 1) := by decide +kernel
theorem dX5_read_208 : decode cX5_read 208 = .ok (.getfield 25, 3) := by decide +kernel
theorem dX5_read_211 : decode cX5_read 211 = .ok (.iload_n 1, 1) := by decide +kernel
theorem dX5_read_212 : decode cX5_read 212 = .ok (.iaload, 1) := by decide +kernel
theorem dX5_read_213 : decode cX5_read 213 = .ok (.iload 5, 2) := by decide +kernel
theorem dX5_read_215 : decode cX5_read 215 = .ok (.iadd, 1) := by decide +kernel
theorem dX5_read_216 : decode cX5_read 216 = .ok (.invokestatic 128, 3) := by decide +kernel
theorem dX5_read_219 : decode cX5_read 219 = .ok (.iastore, 1) := by decide +kernel
theorem dX5_read_220 : decode cX5_read 220 = .ok (.aload_n 0, 1) := by decide +kernel
theorem dX5_read_221 : decode cX5_read 221 = .ok (.getfield 28, 3) := by decide +kernel
theorem dX5_read_224 : decode cX5_read 224 = .ok (.iload_n 1, 1) := by decide +kernel
theorem dX5_read_225 : decode cX5_read 225 = .ok (.dup2, 1) := by decide +kernel
theorem dX5_read_226 : decode cX5_read 226 = .ok (.iaload, 1) := by decide +kernel
theorem dX5_read_227 : decode cX5_read 227 = .ok (.iconst 1, 1) := by decide +kernel
theorem dX5_read_228 : decode cX5_read 228 = .ok (.iadd, 1) := by decide +kernel
theorem dX5_read_229 : decode cX5_read 229 = .ok (.iastore, 1) := by decide +kernel
theorem dX5_read_230 : decode cX5_read 230 = .ok (.goto 5, 3) := by decide +kernel
theorem dX5_read_233 : decode cX5_read 233 = .ok (.iload_n 3, 1) := by decide +kernel
theorem dX5_read_234 : decode cX5_read 234 = .ok (.ireturn, 1) := by decide +kernel
theorem dX5_read_235 : decode cX5_read 235 = .ok (.iinc 3 1, 3) := by decide +kernel
theorem dX5_read_238 : decode cX5_read 238 = .ok (.goto (-218), 3) := by decide +kernel
theorem dX5_read_241 : decode cX5_read 241 = .ok (.aload_n 0, 1) := by decide +kernel
theorem dX5_read_242 : decode cX5_read 242 = .ok (.aload_n 0, 1) := by decide +kernel
theorem dX5_read_243 : decode cX5_read 243 = .ok (.getfield 25, 3) := by decide +kernel
theorem dX5_read_246 : decode cX5_read 246 = .ok (.iconst 0, 1) := by decide +kernel
theorem dX5_read_247 : decode cX5_read 247 = .ok (.iaload, 1) := by decide +kernel
theorem dX5_read_248 : decode cX5_read 248 = .ok (.putfield 131, 3) := by decide +kernel
theorem dX5_read_251 : decode cX5_read 251 = .ok (.iload_n 1, 1) := by decide +kernel
theorem dX5_read_252 : decode cX5_read 252 = .ok (.ifCond .ne 21, 3) := by decide +kernel
theorem dX5_read_255 : decode cX5_read 255 = .ok (.iload_n 2, 1) := by decide +kernel
theorem dX5_read_256 : decode cX5_read 256 = .ok (.ifCond .ne 17, 3) := by decide +kernel
theorem dX5_read_259 : decode cX5_read 259 = .ok (.aload_n 0, 1) := by decide +kernel
theorem dX5_read_260 : decode cX5_read 260 = .ok (.getfield 28, 3) := by decide +kernel
theorem dX5_read_263 : decode cX5_read 263 = .ok (.iconst 0, 1) := by decide +kernel
theorem dX5_read_264 : decode cX5_read 264 = .ok (.iaload, 1) := by decide +kernel
theorem dX5_read_265 : decode cX5_read 265 = .ok (.ifCond .le 8, 3) := by decide +kernel
theorem dX5_read_268 : decode cX5_read 268 = .ok (.bipush (-5), 2) := by decide +kernel
theorem dX5_read_270 : decode cX5_read 270 = .ok (.goto 7, 3) := by decide +kernel
theorem dX5_read_273 : decode cX5_read 273 = .ok (.aload_n 0, 1) := by decide +kernel
theorem dX5_read_274 : decode cX5_read 274 = .ok (.getfield 125, 3) := by decide +kernel
theorem dX5_read_277 : decode cX5_read 277 = .ok (.ireturn, 1) := by decide +kernel
set_option maxRecDepth 20000 in
theorem ggX5_perform_X5_read : GoodIn wsX5_perform wsX5_read := goodIn_r _ [10, 11, 12, 2, 3, 13, 1, 14, 15, 9, 16, 17, 18, 19, 69, 70, 71, 72, 73, 74, 75, 76, 77, 78, 79, 80, 81, 82, 83, 84, 85, 86] (by decide +kernel) (by decide +kernel)
set_option maxRecDepth 20000 in
theorem gX5_perform_X5_read : GoodIn wsX5_perform (wsV RX5 134 RX5 yX5_read wsX5_read) := goodIn_app (goodIn_of _ (by decide +kernel)) ggX5_perform_X5_read
set_option maxRecDepth 20000 in
theorem ggX5_perform_X5_record : GoodIn wsX5_perform wsX5_record := goodIn_r _ [23, 24, 25, 26, 27, 28, 9, 29, 69, 70, 71, 72, 73, 74, 75, 76, 77, 78, 79, 80, 81, 82, 83, 84, 85, 86] (by decide +kernel) (by decide +kernel)
set_option maxRecDepth 20000 in
theorem gX5_perform_X5_record : GoodIn wsX5_perform (wsV RX5 67 RX5 yX5_record wsX5_record) := goodIn_app (goodIn_of _ (by decide +kernel)) ggX5_perform_X5_record
set_option maxRecDepth 20000 in
theorem ggX5_perform_X5_in : GoodIn wsX5_perform wsX5_in := goodIn_r _ [16] (by decide +kernel) (by decide +kernel)
set_option maxRecDepth 20000 in
theorem gX5_perform_X5_in : GoodIn wsX5_perform (va_wsS RX5 47 yX5_in wsX5_in) := goodIn_app (goodIn_of _ (by decide +kernel)) ggX5_perform_X5_in
set_option maxRecDepth 20000 in
theorem ggX5_perform_X5_makeStep : GoodIn wsX5_perform wsX5_makeStep := goodIn_r _ [33, 26, 34, 35, 36, 9, 37, 38, 39, 40, 41, 42, 43, 44, 45, 46, 47, 48, 49, 50, 51, 52, 53, 54, 55, 56, 57, 58, 59, 60, 61, 62, 63, 64, 65, 66, 67, 68, 69, 70, 71, 72, 73, 74, 75, 76, 77, 78, 79, 80, 81, 82, 83, 84, 85, 86] (by decide +kernel) (by decide +kernel)
set_option maxRecDepth 20000 in
theorem gX5_perform_X5_makeStep : GoodIn wsX5_perform (wsV RX5 103 RX5 yX5_makeStep wsX5_makeStep) := goodIn_app (goodIn_of _ (by decide +kernel)) ggX5_perform_X5_makeStep
theorem dX5_perform_0 : decode cX5_perform 0 = .ok (.aload_n 0, 1) := by decide +kernel
theorem dX5_perform_1 : decode cX5_perform 1 = .ok (.invokevirtual 134, 3) := by decide +kernel
theorem dX5_perform_4 : decode cX5_perform 4 = .ok (.istore_n 1, 1) := by decide +kernel
theorem dX5_perform_5 : decode cX5_perform 5 = .ok (.iload_n 1, 1) := by decide +kernel
theorem dX5_perform_6 : decode cX5_perform 6 = .ok (.bipush (-5), 2) := by decide +kernel
theorem dX5_perform_8 : decode cX5_perform 8 = .ok (.if_icmp .eq 8, 3) := by decide +kernel
theorem dX5_perform_11 : decode cX5_perform 11 = .ok (.bipush (-100), 2) := by decide +kernel
theorem dX5_perform_13 : decode cX5_perform 13 = .ok (.iload_n 1, 1) := by decide +kernel
theorem dX5_perform_14 : decode cX5_perform 14 = .ok (.isub, 1) := by decide +kernel
theorem dX5_perform_15 : decode cX5_perform 15 = .ok (.ireturn, 1) := by decide +kernel
theorem dX5_perform_16 : decode cX5_perform 16 = .ok (.aload_n 0, 1) := by decide +kernel
theorem dX5_perform_17 : decode cX5_perform 17 = .ok (.getfield 131, 3) := by decide +kernel
theorem dX5_perform_20 : decode cX5_perform 20 = .ok (.sipush 2000, 3) := by decide +kernel
theorem dX5_perform_23 : decode cX5_perform 23 = .ok (.if_icmp .le 6, 3) := by decide +kernel
theorem dX5_perform_26 : decode cX5_perform 26 = .ok (.bipush (-3), 2) := by decide +kernel
theorem dX5_perform_28 : decode cX5_perform 28 = .ok (.ireturn, 1) := by decide +kernel
theorem dX5_perform_29 : decode cX5_perform 29 = .ok (.aload_n 0, 1) := by decide +kernel
theorem dX5_perform_30 : decode cX5_perform 30 = .ok (.invokevirtual 67, 3) := by decide +kernel
theorem dX5_perform_33 : decode cX5_perform 33 = .ok (.iconst 0, 1) := by decide +kernel
theorem dX5_perform_34 : decode cX5_perform 34 = .ok (.istore_n 2, 1) := by decide +kernel
theorem dX5_perform_35 : decode cX5_perform 35 = .ok (.iconst 1, 1) := by decide +kernel
theorem dX5_perform_36 : decode cX5_perform 36 = .ok (.istore_n 3, 1) := by decide +kernel
theorem dX5_perform_37 : decode cX5_perform 37 = .ok (.iconst 0, 1) := by decide +kernel
theorem dX5_perform_38 : decode cX5_perform 38 = .ok (.istore 4, 2) := by decide +kernel
theorem dX5_perform_40 : decode cX5_perform 40 = .ok (.iload 4, 2) := by decide +kernel
theorem dX5_perform_42 : decode cX5_perform 42 = .ok (.aload_n 0, 1) := by decide +kernel
theorem dX5_perform_43 : decode cX5_perform 43 = .ok (.getfield 125, 3) := by decide +kernel
theorem dX5_perform_46 : decode cX5_perform 46 = .ok (.if_icmp .ge 156, 3) := by decide +kernel
theorem dX5_perform_49 : decode cX5_perform 49 = .ok (.aload_n 0, 1) := by decide +kernel
theorem dX5_perform_50 : decode cX5_perform 50 = .ok (.getfield 22, 3) := by decide +kernel
theorem dX5_perform_53 : decode cX5_perform 53 = .ok (.iload 4, 2) := by decide +kernel
theorem dX5_perform_55 : decode cX5_perform 55 = .ok (.iaload, 1) := by decide +kernel
theorem dX5_perform_56 : decode cX5_perform 56 = .ok (.istore 5, 2) := by decide +kernel
theorem dX5_perform_58 : decode cX5_perform 58 = .ok (.iinc 4 1, 3) := by decide +kernel
theorem dX5_perform_61 : decode cX5_perform 61 = .ok (.iload 5, 2) := by decide +kernel
theorem dX5_perform_63 : decode cX5_perform 63 = .ok (.bipush 50, 2) := by decide +kernel
theorem dX5_perform_65 : decode cX5_perform 65 = .ok (.bipush 57, 2) := by decide +kernel
theorem dX5_perform_67 : decode cX5_perform 67 = .ok (.invokestatic 47, 3) := by decide +kernel
theorem dX5_perform_70 : decode cX5_perform 70 = .ok (.ifCond .eq 12, 3) := by decide +kernel
theorem dX5_perform_73 : decode cX5_perform 73 = .ok (.iload 5, 2) := by decide +kernel
theorem dX5_perform_75 : decode cX5_perform 75 = .ok (.bipush 48, 2) := by decide +kernel
theorem dX5_perform_77 : decode cX5_perform 77 = .ok (.isub, 1) := by decide +kernel
theorem dX5_perform_78 : decode cX5_perform 78 = .ok (.istore_n 3, 1) := by decide +kernel
theorem dX5_perform_79 : decode cX5_perform 79 = .ok (.goto 120, 3) := by decide +kernel
theorem dX5_perform_82 : decode cX5_perform 82 = .ok (.iload 5, 2) := by decide +kernel
theorem dX5_perform_84 : decode cX5_perform 84 = .ok (.bipush 40, 2) := by decide +kernel
theorem dX5_perform_86 : decode cX5_perform 86 = .ok (.if_icmp .ne 28, 3) := by decide +kernel
theorem dX5_perform_89 : decode cX5_perform 89 = .ok (.iinc 2 1, 3) := by decide +kernel
theorem dX5_perform_92 : decode cX5_perform 92 = .ok (.aload_n 0, 1) := by decide +kernel
theorem dX5_perform_93 : decode cX5_perform 93 = .ok (.getfield 34, 3) := by decide +kernel
theorem dX5_perform_96 : decode cX5_perform 96 = .ok (.iload_n 2, 1) := by decide +kernel
theorem dX5_perform_97 : decode cX5_perform 97 = .ok (.iload 4, 2) := by decide +kernel
theorem dX5_perform_99 : decode cX5_perform 99 = .ok (.iastore, 1) := by decide +kernel
theorem dX5_perform_100 : decode cX5_perform 100 = .ok (.aload_n 0, 1) := by decide +kernel
theorem dX5_perform_101 : decode cX5_perform 101 = .ok (.getfield 37, 3) := by decide +kernel
theorem dX5_perform_104 : decode cX5_perform 104 = .ok (.iload_n 2, 1) := by decide +kernel
theorem dX5_perform_105 : decode cX5_perform 105 = .ok (.iload_n 3, 1) := by decide +kernel
theorem dX5_perform_106 : decode cX5_perform 106 = .ok (.iconst 1, 1) := by decide +kernel
theorem dX5_perform_107 : decode cX5_perform 107 = .ok (.isub, 1) := by decide +kernel
theorem dX5_perform_108 : decode cX5_perform 108 = .ok (.iastore, 1) := by decide +kernel
theorem dX5_perform_109 : decode cX5_perform 109 = .ok (.iconst 1, 1) := by decide +kernel
theorem dX5_perform_110 : decode cX5_perform 110 = .ok (.istore_n 3, 1) := by decide +kernel
theorem dX5_perform_111 : decode cX5_perform 111 = .ok (.goto 88, 3) := by decide +kernel
theorem dX5_perform_114 : decode cX5_perform 114 = .ok (.iload 5, 2) := by decide +kernel
theorem dX5_perform_116 : decode cX5_perform 116 = .ok (.bipush 41, 2) := by decide +kernel
theorem dX5_perform_118 : decode cX5_perform 118 = .ok (.if_icmp .ne 55, 3) := by decide +kernel
theorem dX5_perform_121 : decode cX5_perform 121 = .ok (.aload_n 0, 1) := by decide +kernel
theorem dX5_perform_122 : decode cX5_perform 122 = .ok (.getfield 37, 3) := by decide +kernel
theorem dX5_perform_125 : decode cX5_perform 125 = .ok (.iload_n 2, 1) := by decide +kernel
theorem dX5_perform_126 : decode cX5_perform 126 = .ok (.iaload, 1) := by decide +kernel
theorem dX5_perform_127 : decode cX5_perform 127 = .ok (.ifCond .le 12, 3) := by decide +kernel
theorem dX5_perform_130 : decode cX5_perform 130 = .ok (.aload_n 0, 1) := by decide +kernel
theorem dX5_perform_131 : decode cX5_perform 131 = .ok (.getfield 34, 3) := by decide +kernel
theorem dX5_perform_134 : decode cX5_perform 134 = .ok (.iload_n 2, 1) := by decide +kernel
theorem dX5_perform_135 : decode cX5_perform 135 = .ok (.iaload, 1) := by decide +kernel
theorem dX5_perform_136 : decode cX5_perform 136 = .ok (.goto 5, 3) := by decide +kernel
theorem dX5_perform_139 : decode cX5_perform 139 = .ok (.iload 4, 2) := by decide +kernel
theorem dX5_perform_141 : decode cX5_perform 141 = .ok (.istore 4, 2) := by decide +kernel
theorem dX5_perform_143 : decode cX5_perform 143 = .ok (.aload_n 0, 1) := by decide +kernel
theorem dX5_perform_144 : decode cX5_perform 144 = .ok (.getfield 37, 3) := by decide +kernel
theorem dX5_perform_147 : decode cX5_perform 147 = .ok (.iload_n 2, 1) := by decide +kernel
theorem dX5_perform_148 : decode cX5_perform 148 = .ok (.dup2, 1) := by decide +kernel
theorem dX5_perform_149 : decode cX5_perform 149 = .ok (.iaload, 1) := by decide +kernel
theorem dX5_perform_150 : decode cX5_perform 150 = .ok (.iconst 1, 1) := by decide +kernel
theorem dX5_perform_151 : decode cX5_perform 151 = .ok (.isub, 1) := by decide +kernel
theorem dX5_perform_152 : decode cX5_perform 152 = .ok (.iastore, 1) := by decide +kernel
theorem dX5_perform_153 : decode cX5_perform 153 = .ok (.iload_n 2, 1) := by decide +kernel
theorem dX5_perform_154 : decode cX5_perform 154 = .ok (.aload_n 0, 1) := by decide +kernel
theorem dX5_perform_155 : decode cX5_perform 155 = .ok (.getfield 37, 3) := by decide +kernel
theorem dX5_perform_158 : decode cX5_perform 158 = .ok (.iload_n 2, 1) := by decide +kernel
theorem dX5_perform_159 : decode cX5_perform 159 = .ok (.iaload, 1) := by decide +kernel
theorem dX5_perform_160 : decode cX5_perform 160 = .ok (.ifCond .ge 7, 3) := by decide +kernel
theorem dX5_perform_163 : decode cX5_perform 163 = .ok (.iconst 1, 1) := by decide +kernel
theorem dX5_perform_164 : decode cX5_perform 164 = .ok (.goto 4, 3) := by decide +kernel
theorem dX5_perform_167 : decode cX5_perform 167 = .ok (.iconst 0, 1) := by decide +kernel
theorem dX5_perform_168 : decode cX5_perform 168 = .ok (.isub, 1) := by decide +kernel
theorem dX5_perform_169 : decode cX5_perform 169 = .ok (.istore_n 2, 1) := by decide +kernel
theorem dX5_perform_170 : decode cX5_perform 170 = .ok (.goto 29, 3) := by decide +kernel
theorem dX5_perform_173 : decode cX5_perform 173 = .ok (.iconst 0, 1) := by decide +kernel
theorem dX5_perform_174 : decode cX5_perform 174 = .ok (.istore 6, 2) := by decide +kernel
theorem dX5_perform_176 : decode cX5_perform 176 = .ok (.iload 6, 2) := by decide +kernel
theorem dX5_perform_178 : decode cX5_perform 178 = .ok (.iload_n 3, 1) := by decide +kernel
theorem dX5_perform_179 : decode cX5_perform 179 = .ok (.if_icmp .ge 18, 3) := by decide +kernel
theorem dX5_perform_182 : decode cX5_perform 182 = .ok (.aload_n 0, 1) := by decide +kernel
theorem dX5_perform_183 : decode cX5_perform 183 = .ok (.iload 5, 2) := by decide +kernel
theorem dX5_perform_185 : decode cX5_perform 185 = .ok (.bipush 97, 2) := by decide +kernel
theorem dX5_perform_187 : decode cX5_perform 187 = .ok (.isub, 1) := by decide +kernel
theorem dX5_perform_188 : decode cX5_perform 188 = .ok (.invokevirtual 103, 3) := by decide +kernel
theorem dX5_perform_191 : decode cX5_perform 191 = .ok (.iinc 6 1, 3) := by decide +kernel
theorem dX5_perform_194 : decode cX5_perform 194 = .ok (.goto (-18), 3) := by decide +kernel
theorem dX5_perform_197 : decode cX5_perform 197 = .ok (.iconst 1, 1) := by decide +kernel
theorem dX5_perform_198 : decode cX5_perform 198 = .ok (.istore_n 3, 1) := by decide +kernel
theorem dX5_perform_199 : decode cX5_perform 199 = .ok (.goto (-159), 3) := by decide +kernel
theorem dX5_perform_202 : decode cX5_perform 202 = .ok (.aload_n 0, 1) := by decide +kernel
theorem dX5_perform_203 : decode cX5_perform 203 = .ok (.getfield 131, 3) := by decide +kernel
theorem dX5_perform_206 : decode cX5_perform 206 = .ok (.ireturn, 1) := by decide +kernel
set_option maxRecDepth 20000 in
theorem ggX5_visitor_X5_isVisitor : GoodIn wsX5_visitor wsX5_isVisitor := goodIn_r _ [5, 6, 7, 4, 8] (by decide +kernel) (by decide +kernel)
set_option maxRecDepth 20000 in
theorem gX5_visitor_X5_isVisitor : GoodIn wsX5_visitor (va_wsS RX5 100 yX5_isVisitor wsX5_isVisitor) := goodIn_app (goodIn_of _ (by decide +kernel)) ggX5_visitor_X5_isVisitor
set_option maxRecDepth 20000 in
theorem ggX5_visitor_X5_in : GoodIn wsX5_visitor wsX5_in := goodIn_r _ [8] (by decide +kernel) (by decide +kernel)
set_option maxRecDepth 20000 in
theorem gX5_visitor_X5_in : GoodIn wsX5_visitor (va_wsS RX5 47 yX5_in wsX5_in) := goodIn_app (goodIn_of _ (by decide +kernel)) ggX5_visitor_X5_in
set_option maxRecDepth 20000 in
theorem ggX5_visitor_X5_placeOf : GoodIn wsX5_visitor wsX5_placeOf := goodIn_r _ [12, 1, 13, 14, 15, 16, 17, 18, 19, 20, 21, 22, 23, 24, 25, 26, 27, 28, 29, 30] (by decide +kernel) (by decide +kernel)
set_option maxRecDepth 20000 in
theorem gX5_visitor_X5_placeOf : GoodIn wsX5_visitor (wsV RX5 82 RX5 yX5_placeOf wsX5_placeOf) := goodIn_app (goodIn_of _ (by decide +kernel)) ggX5_visitor_X5_placeOf
theorem dX5_visitor_0 : decode cX5_visitor 0 = .ok (.iload_n 1, 1) := by decide +kernel
theorem dX5_visitor_1 : decode cX5_visitor 1 = .ok (.invokestatic 100, 3) := by decide +kernel
theorem dX5_visitor_4 : decode cX5_visitor 4 = .ok (.ifCond .ne 5, 3) := by decide +kernel
theorem dX5_visitor_7 : decode cX5_visitor 7 = .ok (.iconst (-1), 1) := by decide +kernel
theorem dX5_visitor_8 : decode cX5_visitor 8 = .ok (.ireturn, 1) := by decide +kernel
theorem dX5_visitor_9 : decode cX5_visitor 9 = .ok (.aload_n 0, 1) := by decide +kernel
theorem dX5_visitor_10 : decode cX5_visitor 10 = .ok (.getfield 7, 3) := by decide +kernel
theorem dX5_visitor_13 : decode cX5_visitor 13 = .ok (.bipush 60, 2) := by decide +kernel
theorem dX5_visitor_15 : decode cX5_visitor 15 = .ok (.iaload, 1) := by decide +kernel
theorem dX5_visitor_16 : decode cX5_visitor 16 = .ok (.istore_n 3, 1) := by decide +kernel
theorem dX5_visitor_17 : decode cX5_visitor 17 = .ok (.aload_n 0, 1) := by decide +kernel
theorem dX5_visitor_18 : decode cX5_visitor 18 = .ok (.getfield 7, 3) := by decide +kernel
theorem dX5_visitor_21 : decode cX5_visitor 21 = .ok (.iconst 0, 1) := by decide +kernel
theorem dX5_visitor_22 : decode cX5_visitor 22 = .ok (.iload_n 1, 1) := by decide +kernel
theorem dX5_visitor_23 : decode cX5_visitor 23 = .ok (.iadd, 1) := by decide +kernel
theorem dX5_visitor_24 : decode cX5_visitor 24 = .ok (.iaload, 1) := by decide +kernel
theorem dX5_visitor_25 : decode cX5_visitor 25 = .ok (.istore 4, 2) := by decide +kernel
theorem dX5_visitor_27 : decode cX5_visitor 27 = .ok (.iload_n 2, 1) := by decide +kernel
theorem dX5_visitor_28 : decode cX5_visitor 28 = .ok (.tableswitch 257 0 10 #[60, 63, 73, 83, 93, 103, 135, 187, 207, 232, 251], 60) := by decide +kernel
theorem dX5_visitor_88 : decode cX5_visitor 88 = .ok (.iload 4, 2) := by decide +kernel
theorem dX5_visitor_90 : decode cX5_visitor 90 = .ok (.ireturn, 1) := by decide +kernel
theorem dX5_visitor_91 : decode cX5_visitor 91 = .ok (.aload_n 0, 1) := by decide +kernel
theorem dX5_visitor_92 : decode cX5_visitor 92 = .ok (.getfield 7, 3) := by decide +kernel
theorem dX5_visitor_95 : decode cX5_visitor 95 = .ok (.bipush 62, 2) := by decide +kernel
theorem dX5_visitor_97 : decode cX5_visitor 97 = .ok (.iload_n 1, 1) := by decide +kernel
theorem dX5_visitor_98 : decode cX5_visitor 98 = .ok (.iadd, 1) := by decide +kernel
theorem dX5_visitor_99 : decode cX5_visitor 99 = .ok (.iaload, 1) := by decide +kernel
theorem dX5_visitor_100 : decode cX5_visitor 100 = .ok (.ireturn, 1) := by decide +kernel
theorem dX5_visitor_101 : decode cX5_visitor 101 = .ok (.aload_n 0, 1) := by decide +kernel
theorem dX5_visitor_102 : decode cX5_visitor 102 = .ok (.getfield 7, 3) := by decide +kernel
theorem dX5_visitor_105 : decode cX5_visitor 105 = .ok (.bipush 68, 2) := by decide +kernel
theorem dX5_visitor_107 : decode cX5_visitor 107 = .ok (.iload_n 1, 1) := by decide +kernel
theorem dX5_visitor_108 : decode cX5_visitor 108 = .ok (.iadd, 1) := by decide +kernel
theorem dX5_visitor_109 : decode cX5_visitor 109 = .ok (.iaload, 1) := by decide +kernel
theorem dX5_visitor_110 : decode cX5_visitor 110 = .ok (.ireturn, 1) := by decide +kernel
theorem dX5_visitor_111 : decode cX5_visitor 111 = .ok (.aload_n 0, 1) := by decide +kernel
theorem dX5_visitor_112 : decode cX5_visitor 112 = .ok (.getfield 7, 3) := by decide +kernel
theorem dX5_visitor_115 : decode cX5_visitor 115 = .ok (.bipush 74, 2) := by decide +kernel
theorem dX5_visitor_117 : decode cX5_visitor 117 = .ok (.iload_n 1, 1) := by decide +kernel
theorem dX5_visitor_118 : decode cX5_visitor 118 = .ok (.iadd, 1) := by decide +kernel
theorem dX5_visitor_119 : decode cX5_visitor 119 = .ok (.iaload, 1) := by decide +kernel
theorem dX5_visitor_120 : decode cX5_visitor 120 = .ok (.ireturn, 1) := by decide +kernel
theorem dX5_visitor_121 : decode cX5_visitor 121 = .ok (.aload_n 0, 1) := by decide +kernel
theorem dX5_visitor_122 : decode cX5_visitor 122 = .ok (.getfield 7, 3) := by decide +kernel
theorem dX5_visitor_125 : decode cX5_visitor 125 = .ok (.bipush 80, 2) := by decide +kernel
theorem dX5_visitor_127 : decode cX5_visitor 127 = .ok (.iload_n 1, 1) := by decide +kernel
theorem dX5_visitor_128 : decode cX5_visitor 128 = .ok (.iadd, 1) := by decide +kernel
theorem dX5_visitor_129 : decode cX5_visitor 129 = .ok (.iaload, 1) := by decide +kernel
theorem dX5_visitor_130 : decode cX5_visitor 130 = .ok (.ireturn, 1) := by decide +kernel
theorem dX5_visitor_131 : decode cX5_visitor 131 = .ok (.iload_n 3, 1) := by decide +kernel
theorem dX5_visitor_132 : decode cX5_visitor 132 = .ok (.ifCond .ne 16, 3) := by decide +kernel
theorem dX5_visitor_135 : decode cX5_visitor 135 = .ok (.aload_n 0, 1) := by decide +kernel
theorem dX5_visitor_136 : decode cX5_visitor 136 = .ok (.getfield 7, 3) := by decide +kernel
theorem dX5_visitor_139 : decode cX5_visitor 139 = .ok (.bipush 6, 2) := by decide +kernel
theorem dX5_visitor_141 : decode cX5_visitor 141 = .ok (.iload_n 1, 1) := by decide +kernel
theorem dX5_visitor_142 : decode cX5_visitor 142 = .ok (.iadd, 1) := by decide +kernel
theorem dX5_visitor_143 : decode cX5_visitor 143 = .ok (.iaload, 1) := by decide +kernel
theorem dX5_visitor_144 : decode cX5_visitor 144 = .ok (.iconst (-1), 1) := by decide +kernel
theorem dX5_visitor_145 : decode cX5_visitor 145 = .ok (.if_icmp .ne 8, 3) := by decide +kernel
theorem dX5_visitor_148 : decode cX5_visitor 148 = .ok (.bipush (-5), 2) := by decide +kernel
theorem dX5_visitor_150 : decode cX5_visitor 150 = .ok (.goto 12, 3) := by decide +kernel
theorem dX5_visitor_153 : decode cX5_visitor 153 = .ok (.aload_n 0, 1) := by decide +kernel
theorem dX5_visitor_154 : decode cX5_visitor 154 = .ok (.getfield 7, 3) := by decide +kernel
theorem dX5_visitor_157 : decode cX5_visitor 157 = .ok (.bipush 6, 2) := by decide +kernel
theorem dX5_visitor_159 : decode cX5_visitor 159 = .ok (.iload_n 1, 1) := by decide +kernel
theorem dX5_visitor_160 : decode cX5_visitor 160 = .ok (.iadd, 1) := by decide +kernel
theorem dX5_visitor_161 : decode cX5_visitor 161 = .ok (.iaload, 1) := by decide +kernel
theorem dX5_visitor_162 : decode cX5_visitor 162 = .ok (.ireturn, 1) := by decide +kernel
theorem dX5_visitor_163 : decode cX5_visitor 163 = .ok (.iload_n 3, 1) := by decide +kernel
theorem dX5_visitor_164 : decode cX5_visitor 164 = .ok (.ifCond .ne 25, 3) := by decide +kernel
theorem dX5_visitor_167 : decode cX5_visitor 167 = .ok (.iload 4, 2) := by decide +kernel
theorem dX5_visitor_169 : decode cX5_visitor 169 = .ok (.iconst 2, 1) := by decide +kernel
theorem dX5_visitor_170 : decode cX5_visitor 170 = .ok (.iconst 3, 1) := by decide +kernel
theorem dX5_visitor_171 : decode cX5_visitor 171 = .ok (.invokestatic 47, 3) := by decide +kernel
theorem dX5_visitor_174 : decode cX5_visitor 174 = .ok (.ifCond .eq 15, 3) := by decide +kernel
theorem dX5_visitor_177 : decode cX5_visitor 177 = .ok (.aload_n 0, 1) := by decide +kernel
theorem dX5_visitor_178 : decode cX5_visitor 178 = .ok (.getfield 7, 3) := by decide +kernel
theorem dX5_visitor_181 : decode cX5_visitor 181 = .ok (.bipush 18, 2) := by decide +kernel
theorem dX5_visitor_183 : decode cX5_visitor 183 = .ok (.iload_n 1, 1) := by decide +kernel
theorem dX5_visitor_184 : decode cX5_visitor 184 = .ok (.iadd, 1) := by decide +kernel
theorem dX5_visitor_185 : decode cX5_visitor 185 = .ok (.iaload, 1) := by decide +kernel
theorem dX5_visitor_186 : decode cX5_visitor 186 = .ok (.goto 28, 3) := by decide +kernel
theorem dX5_visitor_189 : decode cX5_visitor 189 = .ok (.iload_n 3, 1) := by decide +kernel
theorem dX5_visitor_190 : decode cX5_visitor 190 = .ok (.iconst 1, 1) := by decide +kernel
theorem dX5_visitor_191 : decode cX5_visitor 191 = .ok (.if_icmp .ne 21, 3) := by decide +kernel
theorem dX5_visitor_194 : decode cX5_visitor 194 = .ok (.iload 4, 2) := by decide +kernel
theorem dX5_visitor_196 : decode cX5_visitor 196 = .ok (.iconst 3, 1) := by decide +kernel
theorem dX5_visitor_197 : decode cX5_visitor 197 = .ok (.if_icmp .lt 15, 3) := by decide +kernel
theorem dX5_visitor_200 : decode cX5_visitor 200 = .ok (.aload_n 0, 1) := by decide +kernel
theorem dX5_visitor_201 : decode cX5_visitor 201 = .ok (.getfield 7, 3) := by decide +kernel
theorem dX5_visitor_204 : decode cX5_visitor 204 = .ok (.bipush 30, 2) := by decide +kernel
theorem dX5_visitor_206 : decode cX5_visitor 206 = .ok (.iload_n 1, 1) := by decide +kernel
theorem dX5_visitor_207 : decode cX5_visitor 207 = .ok (.iadd, 1) := by decide +kernel
theorem dX5_visitor_208 : decode cX5_visitor 208 = .ok (.iaload, 1) := by decide +kernel
theorem dX5_visitor_209 : decode cX5_visitor 209 = .ok (.goto 5, 3) := by decide +kernel
theorem dX5_visitor_212 : decode cX5_visitor 212 = .ok (.bipush (-5), 2) := by decide +kernel
theorem dX5_visitor_214 : decode cX5_visitor 214 = .ok (.ireturn, 1) := by decide +kernel
theorem dX5_visitor_215 : decode cX5_visitor 215 = .ok (.iload_n 3, 1) := by decide +kernel
theorem dX5_visitor_216 : decode cX5_visitor 216 = .ok (.iconst 1, 1) := by decide +kernel
theorem dX5_visitor_217 : decode cX5_visitor 217 = .ok (.if_icmp .ne 15, 3) := by decide +kernel
theorem dX5_visitor_220 : decode cX5_visitor 220 = .ok (.aload_n 0, 1) := by decide +kernel
theorem dX5_visitor_221 : decode cX5_visitor 221 = .ok (.getfield 7, 3) := by decide +kernel
theorem dX5_visitor_224 : decode cX5_visitor 224 = .ok (.bipush 24, 2) := by decide +kernel
theorem dX5_visitor_226 : decode cX5_visitor 226 = .ok (.iload_n 1, 1) := by decide +kernel
theorem dX5_visitor_227 : decode cX5_visitor 227 = .ok (.iadd, 1) := by decide +kernel
theorem dX5_visitor_228 : decode cX5_visitor 228 = .ok (.iaload, 1) := by decide +kernel
theorem dX5_visitor_229 : decode cX5_visitor 229 = .ok (.goto 5, 3) := by decide +kernel
theorem dX5_visitor_232 : decode cX5_visitor 232 = .ok (.bipush (-5), 2) := by decide +kernel
theorem dX5_visitor_234 : decode cX5_visitor 234 = .ok (.ireturn, 1) := by decide +kernel
theorem dX5_visitor_235 : decode cX5_visitor 235 = .ok (.iload_n 3, 1) := by decide +kernel
theorem dX5_visitor_236 : decode cX5_visitor 236 = .ok (.iconst 2, 1) := by decide +kernel
theorem dX5_visitor_237 : decode cX5_visitor 237 = .ok (.if_icmp .ne 20, 3) := by decide +kernel
theorem dX5_visitor_240 : decode cX5_visitor 240 = .ok (.iload 4, 2) := by decide +kernel
theorem dX5_visitor_242 : decode cX5_visitor 242 = .ok (.ifCond .le 15, 3) := by decide +kernel
theorem dX5_visitor_245 : decode cX5_visitor 245 = .ok (.aload_n 0, 1) := by decide +kernel
theorem dX5_visitor_246 : decode cX5_visitor 246 = .ok (.getfield 7, 3) := by decide +kernel
theorem dX5_visitor_249 : decode cX5_visitor 249 = .ok (.bipush 36, 2) := by decide +kernel
theorem dX5_visitor_251 : decode cX5_visitor 251 = .ok (.iload_n 1, 1) := by decide +kernel
theorem dX5_visitor_252 : decode cX5_visitor 252 = .ok (.iadd, 1) := by decide +kernel
theorem dX5_visitor_253 : decode cX5_visitor 253 = .ok (.iaload, 1) := by decide +kernel
theorem dX5_visitor_254 : decode cX5_visitor 254 = .ok (.goto 5, 3) := by decide +kernel
theorem dX5_visitor_257 : decode cX5_visitor 257 = .ok (.bipush (-5), 2) := by decide +kernel
theorem dX5_visitor_259 : decode cX5_visitor 259 = .ok (.ireturn, 1) := by decide +kernel
theorem dX5_visitor_260 : decode cX5_visitor 260 = .ok (.iload_n 3, 1) := by decide +kernel
theorem dX5_visitor_261 : decode cX5_visitor 261 = .ok (.ifCond .ne 15, 3) := by decide +kernel
theorem dX5_visitor_264 : decode cX5_visitor 264 = .ok (.aload_n 0, 1) := by decide +kernel
theorem dX5_visitor_265 : decode cX5_visitor 265 = .ok (.getfield 7, 3) := by decide +kernel
theorem dX5_visitor_268 : decode cX5_visitor 268 = .ok (.bipush 12, 2) := by decide +kernel
theorem dX5_visitor_270 : decode cX5_visitor 270 = .ok (.iload_n 1, 1) := by decide +kernel
theorem dX5_visitor_271 : decode cX5_visitor 271 = .ok (.iadd, 1) := by decide +kernel
theorem dX5_visitor_272 : decode cX5_visitor 272 = .ok (.iaload, 1) := by decide +kernel
theorem dX5_visitor_273 : decode cX5_visitor 273 = .ok (.goto 5, 3) := by decide +kernel
theorem dX5_visitor_276 : decode cX5_visitor 276 = .ok (.bipush (-5), 2) := by decide +kernel
theorem dX5_visitor_278 : decode cX5_visitor 278 = .ok (.ireturn, 1) := by decide +kernel
theorem dX5_visitor_279 : decode cX5_visitor 279 = .ok (.aload_n 0, 1) := by decide +kernel
theorem dX5_visitor_280 : decode cX5_visitor 280 = .ok (.iload_n 1, 1) := by decide +kernel
theorem dX5_visitor_281 : decode cX5_visitor 281 = .ok (.invokevirtual 82, 3) := by decide +kernel
theorem dX5_visitor_284 : decode cX5_visitor 284 = .ok (.ireturn, 1) := by decide +kernel
theorem dX5_visitor_285 : decode cX5_visitor 285 = .ok (.bipush (-2), 2) := by decide +kernel
theorem dX5_visitor_287 : decode cX5_visitor 287 = .ok (.ireturn, 1) := by decide +kernel
theorem dX5_inLine_0 : decode cX5_inLine 0 = .ok (.iload_n 1, 1) := by decide +kernel
theorem dX5_inLine_1 : decode cX5_inLine 1 = .ok (.ifCond .ge 6, 3) := by decide +kernel
theorem dX5_inLine_4 : decode cX5_inLine 4 = .ok (.bipush (-2), 2) := by decide +kernel
theorem dX5_inLine_6 : decode cX5_inLine 6 = .ok (.ireturn, 1) := by decide +kernel
theorem dX5_inLine_7 : decode cX5_inLine 7 = .ok (.iload_n 1, 1) := by decide +kernel
theorem dX5_inLine_8 : decode cX5_inLine 8 = .ok (.aload_n 0, 1) := by decide +kernel
theorem dX5_inLine_9 : decode cX5_inLine 9 = .ok (.getfield 7, 3) := by decide +kernel
theorem dX5_inLine_12 : decode cX5_inLine 12 = .ok (.bipush 53, 2) := by decide +kernel
theorem dX5_inLine_14 : decode cX5_inLine 14 = .ok (.iaload, 1) := by decide +kernel
theorem dX5_inLine_15 : decode cX5_inLine 15 = .ok (.if_icmp .ge 15, 3) := by decide +kernel
theorem dX5_inLine_18 : decode cX5_inLine 18 = .ok (.aload_n 0, 1) := by decide +kernel
theorem dX5_inLine_19 : decode cX5_inLine 19 = .ok (.getfield 7, 3) := by decide +kernel
theorem dX5_inLine_22 : decode cX5_inLine 22 = .ok (.bipush 54, 2) := by decide +kernel
theorem dX5_inLine_24 : decode cX5_inLine 24 = .ok (.iload_n 1, 1) := by decide +kernel
theorem dX5_inLine_25 : decode cX5_inLine 25 = .ok (.iadd, 1) := by decide +kernel
theorem dX5_inLine_26 : decode cX5_inLine 26 = .ok (.iaload, 1) := by decide +kernel
theorem dX5_inLine_27 : decode cX5_inLine 27 = .ok (.goto 5, 3) := by decide +kernel
theorem dX5_inLine_30 : decode cX5_inLine 30 = .ok (.bipush (-5), 2) := by decide +kernel
theorem dX5_inLine_32 : decode cX5_inLine 32 = .ok (.ireturn, 1) := by decide +kernel
set_option maxRecDepth 20000 in
theorem ggX5_card_X5_in : GoodIn wsX5_card wsX5_in := goodIn_r _ [5] (by decide +kernel) (by decide +kernel)
set_option maxRecDepth 20000 in
theorem gX5_card_X5_in : GoodIn wsX5_card (va_wsS RX5 47 yX5_in wsX5_in) := goodIn_app (goodIn_of _ (by decide +kernel)) ggX5_card_X5_in
