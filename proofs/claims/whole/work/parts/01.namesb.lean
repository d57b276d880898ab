theorem dX0_steps_2 : decode cX0_steps 2 = .ok (.iconst 1, 1) := by decide +kernel
theorem dX0_steps_3 : decode cX0_steps 3 = .ok (.istore_n 2, 1) := by decide +kernel
theorem dX0_steps_4 : decode cX0_steps 4 = .ok (.iload_n 2, 1) := by decide +kernel
theorem dX0_steps_5 : decode cX0_steps 5 = .ok (.aload_n 0, 1) := by decide +kernel
theorem dX0_steps_6 : decode cX0_steps 6 = .ok (.getfield 32, 3) := by decide +kernel
theorem dX0_steps_9 : decode cX0_steps 9 = .ok (.if_icmp .gt 17, 3) := by decide +kernel
theorem dX0_steps_12 : decode cX0_steps 12 = .ok (.iload_n 1, 1) := by decide +kernel
theorem dX0_steps_13 : decode cX0_steps 13 = .ok (.aload_n 0, 1) := by decide +kernel
theorem dX0_steps_14 : decode cX0_steps 14 = .ok (.iload_n 2, 1) := by decide +kernel
theorem dX0_steps_15 : decode cX0_steps 15 = .ok (.invokevirtual 79, 3) := by decide +kernel
theorem dX0_steps_18 : decode cX0_steps 18 = .ok (.iadd, 1) := by decide +kernel
theorem dX0_steps_19 : decode cX0_steps 19 = .ok (.istore_n 1, 1) := by decide +kernel
theorem dX0_steps_20 : decode cX0_steps 20 = .ok (.iinc 2 1, 3) := by decide +kernel
theorem dX0_steps_23 : decode cX0_steps 23 = .ok (.goto (-19), 3) := by decide +kernel
theorem dX0_steps_26 : decode cX0_steps 26 = .ok (.iload_n 1, 1) := by decide +kernel
theorem dX0_steps_27 : decode cX0_steps 27 = .ok (.aload_n 0, 1) := by decide +kernel
theorem dX0_steps_28 : decode cX0_steps 28 = .ok (.invokevirtual 83, 3) := by decide +kernel
theorem dX0_steps_31 : decode cX0_steps 31 = .ok (.iadd, 1) := by decide +kernel
theorem dX0_steps_32 : decode cX0_steps 32 = .ok (.ireturn, 1) := by decide +kernel
set_option maxRecDepth 20000 in
theorem ggX0_groups_X0_isLine : GoodIn wsX0_groups wsX0_isLine := goodIn_r _ [7, 8, 12, 13, 14, 15, 16, 17, 18, 19, 20] (by decide +kernel) (by decide +kernel)
set_option maxRecDepth 20000 in
theorem gX0_groups_X0_isLine : GoodIn wsX0_groups (wsV RX0 76 RX0 yX0_isLine wsX0_isLine) := goodIn_app (goodIn_of _ (by decide +kernel)) ggX0_groups_X0_isLine
set_option maxRecDepth 20000 in
theorem ggX0_groups_X0_pointAt : GoodIn wsX0_groups wsX0_pointAt := goodIn_r _ [11] (by decide +kernel) (by decide +kernel)
set_option maxRecDepth 20000 in
theorem gX0_groups_X0_pointAt : GoodIn wsX0_groups (va_wsS RX0 62 yX0_pointAt wsX0_pointAt) := goodIn_app (goodIn_of _ (by decide +kernel)) ggX0_groups_X0_pointAt
theorem dX0_groups_0 : decode cX0_groups 0 = .ok (.aload_n 0, 1) := by decide +kernel
theorem dX0_groups_1 : decode cX0_groups 1 = .ok (.iload_n 1, 1) := by decide +kernel
theorem dX0_groups_2 : decode cX0_groups 2 = .ok (.invokevirtual 76, 3) := by decide +kernel
theorem dX0_groups_5 : decode cX0_groups 5 = .ok (.ifCond .ne 5, 3) := by decide +kernel
theorem dX0_groups_8 : decode cX0_groups 8 = .ok (.iconst (-1), 1) := by decide +kernel
theorem dX0_groups_9 : decode cX0_groups 9 = .ok (.ireturn, 1) := by decide +kernel
theorem dX0_groups_10 : decode cX0_groups 10 = .ok (.aload_n 0, 1) := by decide +kernel
theorem dX0_groups_11 : decode cX0_groups 11 = .ok (.getfield 28, 3) := by decide +kernel
theorem dX0_groups_14 : decode cX0_groups 14 = .ok (.istore_n 2, 1) := by decide +kernel
theorem dX0_groups_15 : decode cX0_groups 15 = .ok (.iconst 0, 1) := by decide +kernel
theorem dX0_groups_16 : decode cX0_groups 16 = .ok (.istore_n 3, 1) := by decide +kernel
theorem dX0_groups_17 : decode cX0_groups 17 = .ok (.iload_n 3, 1) := by decide +kernel
theorem dX0_groups_18 : decode cX0_groups 18 = .ok (.aload_n 0, 1) := by decide +kernel
theorem dX0_groups_19 : decode cX0_groups 19 = .ok (.getfield 28, 3) := by decide +kernel
theorem dX0_groups_22 : decode cX0_groups 22 = .ok (.if_icmp .ge 22, 3) := by decide +kernel
theorem dX0_groups_25 : decode cX0_groups 25 = .ok (.iload_n 2, 1) := by decide +kernel
theorem dX0_groups_26 : decode cX0_groups 26 = .ok (.aload_n 0, 1) := by decide +kernel
theorem dX0_groups_27 : decode cX0_groups 27 = .ok (.getfield 19, 3) := by decide +kernel
theorem dX0_groups_30 : decode cX0_groups 30 = .ok (.iload_n 3, 1) := by decide +kernel
theorem dX0_groups_31 : decode cX0_groups 31 = .ok (.iload_n 1, 1) := by decide +kernel
theorem dX0_groups_32 : decode cX0_groups 32 = .ok (.invokestatic 62, 3) := by decide +kernel
theorem dX0_groups_35 : decode cX0_groups 35 = .ok (.iaload, 1) := by decide +kernel
theorem dX0_groups_36 : decode cX0_groups 36 = .ok (.isub, 1) := by decide +kernel
theorem dX0_groups_37 : decode cX0_groups 37 = .ok (.istore_n 2, 1) := by decide +kernel
theorem dX0_groups_38 : decode cX0_groups 38 = .ok (.iinc 3 1, 3) := by decide +kernel
theorem dX0_groups_41 : decode cX0_groups 41 = .ok (.goto (-24), 3) := by decide +kernel
theorem dX0_groups_44 : decode cX0_groups 44 = .ok (.iload_n 2, 1) := by decide +kernel
theorem dX0_groups_45 : decode cX0_groups 45 = .ok (.ireturn, 1) := by decide +kernel
set_option maxRecDepth 20000 in
theorem ggX0_passColumn_X0_cellAt : GoodIn wsX0_passColumn wsX0_cellAt := goodIn_r _ [10] (by decide +kernel) (by decide +kernel)
set_option maxRecDepth 20000 in
theorem gX0_passColumn_X0_cellAt : GoodIn wsX0_passColumn (va_wsS RX0 58 yX0_cellAt wsX0_cellAt) := goodIn_app (goodIn_of _ (by decide +kernel)) ggX0_passColumn_X0_cellAt
set_option maxRecDepth 20000 in
theorem ggX0_passColumn_X0_pointAt : GoodIn wsX0_passColumn wsX0_pointAt := goodIn_r _ [13] (by decide +kernel) (by decide +kernel)
set_option maxRecDepth 20000 in
theorem gX0_passColumn_X0_pointAt : GoodIn wsX0_passColumn (va_wsS RX0 62 yX0_pointAt wsX0_pointAt) := goodIn_app (goodIn_of _ (by decide +kernel)) ggX0_passColumn_X0_pointAt
set_option maxRecDepth 20000 in
theorem ggX0_passColumn_X0_letsThrough : GoodIn wsX0_passColumn wsX0_letsThrough := goodIn_r _ [16] (by decide +kernel) (by decide +kernel)
set_option maxRecDepth 20000 in
theorem gX0_passColumn_X0_letsThrough : GoodIn wsX0_passColumn (va_wsS RX0 86 yX0_letsThrough wsX0_letsThrough) := goodIn_app (goodIn_of _ (by decide +kernel)) ggX0_passColumn_X0_letsThrough
theorem dX0_passColumn_0 : decode cX0_passColumn 0 = .ok (.iconst 0, 1) := by decide +kernel
theorem dX0_passColumn_1 : decode cX0_passColumn 1 = .ok (.istore_n 2, 1) := by decide +kernel
theorem dX0_passColumn_2 : decode cX0_passColumn 2 = .ok (.iload_n 2, 1) := by decide +kernel
theorem dX0_passColumn_3 : decode cX0_passColumn 3 = .ok (.aload_n 0, 1) := by decide +kernel
theorem dX0_passColumn_4 : decode cX0_passColumn 4 = .ok (.getfield 28, 3) := by decide +kernel
theorem dX0_passColumn_7 : decode cX0_passColumn 7 = .ok (.if_icmp .ge 99, 3) := by decide +kernel
theorem dX0_passColumn_10 : decode cX0_passColumn 10 = .ok (.iload_n 2, 1) := by decide +kernel
theorem dX0_passColumn_11 : decode cX0_passColumn 11 = .ok (.iload_n 1, 1) := by decide +kernel
theorem dX0_passColumn_12 : decode cX0_passColumn 12 = .ok (.invokestatic 58, 3) := by decide +kernel
theorem dX0_passColumn_15 : decode cX0_passColumn 15 = .ok (.istore_n 3, 1) := by decide +kernel
theorem dX0_passColumn_16 : decode cX0_passColumn 16 = .ok (.aload_n 0, 1) := by decide +kernel
theorem dX0_passColumn_17 : decode cX0_passColumn 17 = .ok (.getfield 25, 3) := by decide +kernel
theorem dX0_passColumn_20 : decode cX0_passColumn 20 = .ok (.aload_n 0, 1) := by decide +kernel
theorem dX0_passColumn_21 : decode cX0_passColumn 21 = .ok (.getfield 13, 3) := by decide +kernel
theorem dX0_passColumn_24 : decode cX0_passColumn 24 = .ok (.iload_n 3, 1) := by decide +kernel
theorem dX0_passColumn_25 : decode cX0_passColumn 25 = .ok (.iaload, 1) := by decide +kernel
theorem dX0_passColumn_26 : decode cX0_passColumn 26 = .ok (.iaload, 1) := by decide +kernel
theorem dX0_passColumn_27 : decode cX0_passColumn 27 = .ok (.istore 4, 2) := by decide +kernel
theorem dX0_passColumn_29 : decode cX0_passColumn 29 = .ok (.aload_n 0, 1) := by decide +kernel
theorem dX0_passColumn_30 : decode cX0_passColumn 30 = .ok (.getfield 22, 3) := by decide +kernel
theorem dX0_passColumn_33 : decode cX0_passColumn 33 = .ok (.iload_n 2, 1) := by decide +kernel
theorem dX0_passColumn_34 : decode cX0_passColumn 34 = .ok (.iload_n 1, 1) := by decide +kernel
theorem dX0_passColumn_35 : decode cX0_passColumn 35 = .ok (.invokestatic 62, 3) := by decide +kernel
theorem dX0_passColumn_38 : decode cX0_passColumn 38 = .ok (.iaload, 1) := by decide +kernel
theorem dX0_passColumn_39 : decode cX0_passColumn 39 = .ok (.iconst 1, 1) := by decide +kernel
theorem dX0_passColumn_40 : decode cX0_passColumn 40 = .ok (.if_icmp .ne 27, 3) := by decide +kernel
theorem dX0_passColumn_43 : decode cX0_passColumn 43 = .ok (.aload_n 0, 1) := by decide +kernel
theorem dX0_passColumn_44 : decode cX0_passColumn 44 = .ok (.getfield 9, 3) := by decide +kernel
theorem dX0_passColumn_47 : decode cX0_passColumn 47 = .ok (.iload_n 3, 1) := by decide +kernel
theorem dX0_passColumn_48 : decode cX0_passColumn 48 = .ok (.iaload, 1) := by decide +kernel
theorem dX0_passColumn_49 : decode cX0_passColumn 49 = .ok (.iload 4, 2) := by decide +kernel
theorem dX0_passColumn_51 : decode cX0_passColumn 51 = .ok (.aload_n 0, 1) := by decide +kernel
theorem dX0_passColumn_52 : decode cX0_passColumn 52 = .ok (.getfield 16, 3) := by decide +kernel
theorem dX0_passColumn_55 : decode cX0_passColumn 55 = .ok (.iload_n 3, 1) := by decide +kernel
theorem dX0_passColumn_56 : decode cX0_passColumn 56 = .ok (.iaload, 1) := by decide +kernel
theorem dX0_passColumn_57 : decode cX0_passColumn 57 = .ok (.invokestatic 86, 3) := by decide +kernel
theorem dX0_passColumn_60 : decode cX0_passColumn 60 = .ok (.ifCond .eq 7, 3) := by decide +kernel
theorem dX0_passColumn_63 : decode cX0_passColumn 63 = .ok (.iconst 1, 1) := by decide +kernel
theorem dX0_passColumn_64 : decode cX0_passColumn 64 = .ok (.goto 4, 3) := by decide +kernel
theorem dX0_passColumn_67 : decode cX0_passColumn 67 = .ok (.iconst 0, 1) := by decide +kernel
theorem dX0_passColumn_68 : decode cX0_passColumn 68 = .ok (.istore 5, 2) := by decide +kernel
theorem dX0_passColumn_70 : decode cX0_passColumn 70 = .ok (.aload_n 0, 1) := by decide +kernel
theorem dX0_passColumn_71 : decode cX0_passColumn 71 = .ok (.getfield 22, 3) := by decide +kernel
theorem dX0_passColumn_74 : decode cX0_passColumn 74 = .ok (.iload_n 2, 1) := by decide +kernel
theorem dX0_passColumn_75 : decode cX0_passColumn 75 = .ok (.iload_n 1, 1) := by decide +kernel
theorem dX0_passColumn_76 : decode cX0_passColumn 76 = .ok (.iconst 1, 1) := by decide +kernel
theorem dX0_passColumn_77 : decode cX0_passColumn 77 = .ok (.iadd, 1) := by decide +kernel
theorem dX0_passColumn_78 : decode cX0_passColumn 78 = .ok (.invokestatic 62, 3) := by decide +kernel
theorem dX0_passColumn_81 : decode cX0_passColumn 81 = .ok (.iload 5, 2) := by decide +kernel
theorem dX0_passColumn_83 : decode cX0_passColumn 83 = .ok (.ifCond .eq 7, 3) := by decide +kernel
theorem dX0_passColumn_86 : decode cX0_passColumn 86 = .ok (.iconst 1, 1) := by decide +kernel
theorem dX0_passColumn_87 : decode cX0_passColumn 87 = .ok (.goto 4, 3) := by decide +kernel
theorem dX0_passColumn_90 : decode cX0_passColumn 90 = .ok (.iconst 0, 1) := by decide +kernel
theorem dX0_passColumn_91 : decode cX0_passColumn 91 = .ok (.iastore, 1) := by decide +kernel
theorem dX0_passColumn_92 : decode cX0_passColumn 92 = .ok (.aload_n 0, 1) := by decide +kernel
theorem dX0_passColumn_93 : decode cX0_passColumn 93 = .ok (.getfield 16, 3) := by decide +kernel
theorem dX0_passColumn_96 : decode cX0_passColumn 96 = .ok (.iload_n 3, 1) := by decide +kernel
theorem dX0_passColumn_97 : decode cX0_passColumn 97 = .ok (.iload 4, 2) := by decide +kernel
theorem dX0_passColumn_99 : decode cX0_passColumn 99 = .ok (.iastore, 1) := by decide +kernel
theorem dX0_passColumn_100 : decode cX0_passColumn 100 = .ok (.iinc 2 1, 3) := by decide +kernel
theorem dX0_passColumn_103 : decode cX0_passColumn 103 = .ok (.goto (-101), 3) := by decide +kernel
theorem dX0_passColumn_106 : decode cX0_passColumn 106 = .ok (.return_, 1) := by decide +kernel
set_option maxRecDepth 20000 in
theorem ggX0_shareAlongLinks_X0_pointAt : GoodIn wsX0_shareAlongLinks wsX0_pointAt := goodIn_r _ [7] (by decide +kernel) (by decide +kernel)
set_option maxRecDepth 20000 in
theorem gX0_shareAlongLinks_X0_pointAt : GoodIn wsX0_shareAlongLinks (va_wsS RX0 62 yX0_pointAt wsX0_pointAt) := goodIn_app (goodIn_of _ (by decide +kernel)) ggX0_shareAlongLinks_X0_pointAt
theorem dX0_shareAlongLinks_0 : decode cX0_shareAlongLinks 0 = .ok (.iconst 0, 1) := by decide +kernel
theorem dX0_shareAlongLinks_1 : decode cX0_shareAlongLinks 1 = .ok (.istore_n 2, 1) := by decide +kernel
theorem dX0_shareAlongLinks_2 : decode cX0_shareAlongLinks 2 = .ok (.iload_n 2, 1) := by decide +kernel
theorem dX0_shareAlongLinks_3 : decode cX0_shareAlongLinks 3 = .ok (.aload_n 0, 1) := by decide +kernel
theorem dX0_shareAlongLinks_4 : decode cX0_shareAlongLinks 4 = .ok (.getfield 28, 3) := by decide +kernel
theorem dX0_shareAlongLinks_7 : decode cX0_shareAlongLinks 7 = .ok (.iconst 1, 1) := by decide +kernel
theorem dX0_shareAlongLinks_8 : decode cX0_shareAlongLinks 8 = .ok (.isub, 1) := by decide +kernel
theorem dX0_shareAlongLinks_9 : decode cX0_shareAlongLinks 9 = .ok (.if_icmp .ge 50, 3) := by decide +kernel
theorem dX0_shareAlongLinks_12 : decode cX0_shareAlongLinks 12 = .ok (.aload_n 0, 1) := by decide +kernel
theorem dX0_shareAlongLinks_13 : decode cX0_shareAlongLinks 13 = .ok (.getfield 19, 3) := by decide +kernel
theorem dX0_shareAlongLinks_16 : decode cX0_shareAlongLinks 16 = .ok (.iload_n 2, 1) := by decide +kernel
theorem dX0_shareAlongLinks_17 : decode cX0_shareAlongLinks 17 = .ok (.iload_n 1, 1) := by decide +kernel
theorem dX0_shareAlongLinks_18 : decode cX0_shareAlongLinks 18 = .ok (.invokestatic 62, 3) := by decide +kernel
theorem dX0_shareAlongLinks_21 : decode cX0_shareAlongLinks 21 = .ok (.iaload, 1) := by decide +kernel
theorem dX0_shareAlongLinks_22 : decode cX0_shareAlongLinks 22 = .ok (.iconst 1, 1) := by decide +kernel
theorem dX0_shareAlongLinks_23 : decode cX0_shareAlongLinks 23 = .ok (.if_icmp .ne 30, 3) := by decide +kernel
theorem dX0_shareAlongLinks_26 : decode cX0_shareAlongLinks 26 = .ok (.aload_n 0, 1) := by decide +kernel
theorem dX0_shareAlongLinks_27 : decode cX0_shareAlongLinks 27 = .ok (.getfield 22, 3) := by decide +kernel
theorem dX0_shareAlongLinks_30 : decode cX0_shareAlongLinks 30 = .ok (.iload_n 2, 1) := by decide +kernel
theorem dX0_shareAlongLinks_31 : decode cX0_shareAlongLinks 31 = .ok (.iload_n 1, 1) := by decide +kernel
theorem dX0_shareAlongLinks_32 : decode cX0_shareAlongLinks 32 = .ok (.invokestatic 62, 3) := by decide +kernel
theorem dX0_shareAlongLinks_35 : decode cX0_shareAlongLinks 35 = .ok (.iaload, 1) := by decide +kernel
theorem dX0_shareAlongLinks_36 : decode cX0_shareAlongLinks 36 = .ok (.iconst 1, 1) := by decide +kernel
theorem dX0_shareAlongLinks_37 : decode cX0_shareAlongLinks 37 = .ok (.if_icmp .ne 16, 3) := by decide +kernel
theorem dX0_shareAlongLinks_40 : decode cX0_shareAlongLinks 40 = .ok (.aload_n 0, 1) := by decide +kernel
theorem dX0_shareAlongLinks_41 : decode cX0_shareAlongLinks 41 = .ok (.getfield 22, 3) := by decide +kernel
theorem dX0_shareAlongLinks_44 : decode cX0_shareAlongLinks 44 = .ok (.iload_n 2, 1) := by decide +kernel
theorem dX0_shareAlongLinks_45 : decode cX0_shareAlongLinks 45 = .ok (.iconst 1, 1) := by decide +kernel
theorem dX0_shareAlongLinks_46 : decode cX0_shareAlongLinks 46 = .ok (.iadd, 1) := by decide +kernel
theorem dX0_shareAlongLinks_47 : decode cX0_shareAlongLinks 47 = .ok (.iload_n 1, 1) := by decide +kernel
theorem dX0_shareAlongLinks_48 : decode cX0_shareAlongLinks 48 = .ok (.invokestatic 62, 3) := by decide +kernel
theorem dX0_shareAlongLinks_51 : decode cX0_shareAlongLinks 51 = .ok (.iconst 1, 1) := by decide +kernel
theorem dX0_shareAlongLinks_52 : decode cX0_shareAlongLinks 52 = .ok (.iastore, 1) := by decide +kernel
theorem dX0_shareAlongLinks_53 : decode cX0_shareAlongLinks 53 = .ok (.iinc 2 1, 3) := by decide +kernel
theorem dX0_shareAlongLinks_56 : decode cX0_shareAlongLinks 56 = .ok (.goto (-54), 3) := by decide +kernel
theorem dX0_shareAlongLinks_59 : decode cX0_shareAlongLinks 59 = .ok (.aload_n 0, 1) := by decide +kernel
theorem dX0_shareAlongLinks_60 : decode cX0_shareAlongLinks 60 = .ok (.getfield 28, 3) := by decide +kernel
theorem dX0_shareAlongLinks_63 : decode cX0_shareAlongLinks 63 = .ok (.iconst 2, 1) := by decide +kernel
theorem dX0_shareAlongLinks_64 : decode cX0_shareAlongLinks 64 = .ok (.isub, 1) := by decide +kernel
theorem dX0_shareAlongLinks_65 : decode cX0_shareAlongLinks 65 = .ok (.istore_n 2, 1) := by decide +kernel
theorem dX0_shareAlongLinks_66 : decode cX0_shareAlongLinks 66 = .ok (.iload_n 2, 1) := by decide +kernel
theorem dX0_shareAlongLinks_67 : decode cX0_shareAlongLinks 67 = .ok (.ifCond .lt 50, 3) := by decide +kernel
theorem dX0_shareAlongLinks_70 : decode cX0_shareAlongLinks 70 = .ok (.aload_n 0, 1) := by decide +kernel
theorem dX0_shareAlongLinks_71 : decode cX0_shareAlongLinks 71 = .ok (.getfield 19, 3) := by decide +kernel
theorem dX0_shareAlongLinks_74 : decode cX0_shareAlongLinks 74 = .ok (.iload_n 2, 1) := by decide +kernel
theorem dX0_shareAlongLinks_75 : decode cX0_shareAlongLinks 75 = .ok (.iload_n 1, 1) := by decide +kernel
theorem dX0_shareAlongLinks_76 : decode cX0_shareAlongLinks 76 = .ok (.invokestatic 62, 3) := by decide +kernel
theorem dX0_shareAlongLinks_79 : decode cX0_shareAlongLinks 79 = .ok (.iaload, 1) := by decide +kernel
theorem dX0_shareAlongLinks_80 : decode cX0_shareAlongLinks 80 = .ok (.iconst 1, 1) := by decide +kernel
theorem dX0_shareAlongLinks_81 : decode cX0_shareAlongLinks 81 = .ok (.if_icmp .ne 30, 3) := by decide +kernel
theorem dX0_shareAlongLinks_84 : decode cX0_shareAlongLinks 84 = .ok (.aload_n 0, 1) := by decide +kernel
theorem dX0_shareAlongLinks_85 : decode cX0_shareAlongLinks 85 = .ok (.getfield 22, 3) := by decide +kernel
theorem dX0_shareAlongLinks_88 : decode cX0_shareAlongLinks 88 = .ok (.iload_n 2, 1) := by decide +kernel
theorem dX0_shareAlongLinks_89 : decode cX0_shareAlongLinks 89 = .ok (.iconst 1, 1) := by decide +kernel
theorem dX0_shareAlongLinks_90 : decode cX0_shareAlongLinks 90 = .ok (.iadd, 1) := by decide +kernel
theorem dX0_shareAlongLinks_91 : decode cX0_shareAlongLinks 91 = .ok (.iload_n 1, 1) := by decide +kernel
theorem dX0_shareAlongLinks_92 : decode cX0_shareAlongLinks 92 = .ok (.invokestatic 62, 3) := by decide +kernel
theorem dX0_shareAlongLinks_95 : decode cX0_shareAlongLinks 95 = .ok (.iaload, 1) := by decide +kernel
theorem dX0_shareAlongLinks_96 : decode cX0_shareAlongLinks 96 = .ok (.iconst 1, 1) := by decide +kernel
theorem dX0_shareAlongLinks_97 : decode cX0_shareAlongLinks 97 = .ok (.if_icmp .ne 14, 3) := by decide +kernel
theorem dX0_shareAlongLinks_100 : decode cX0_shareAlongLinks 100 = .ok (.aload_n 0, 1) := by decide +kernel
theorem dX0_shareAlongLinks_101 : decode cX0_shareAlongLinks 101 = .ok (.getfield 22, 3) := by decide +kernel
theorem dX0_shareAlongLinks_104 : decode cX0_shareAlongLinks 104 = .ok (.iload_n 2, 1) := by decide +kernel
theorem dX0_shareAlongLinks_105 : decode cX0_shareAlongLinks 105 = .ok (.iload_n 1, 1) := by decide +kernel
theorem dX0_shareAlongLinks_106 : decode cX0_shareAlongLinks 106 = .ok (.invokestatic 62, 3) := by decide +kernel
theorem dX0_shareAlongLinks_109 : decode cX0_shareAlongLinks 109 = .ok (.iconst 1, 1) := by decide +kernel
theorem dX0_shareAlongLinks_110 : decode cX0_shareAlongLinks 110 = .ok (.iastore, 1) := by decide +kernel
theorem dX0_shareAlongLinks_111 : decode cX0_shareAlongLinks 111 = .ok (.iinc 2 (-1), 3) := by decide +kernel
theorem dX0_shareAlongLinks_114 : decode cX0_shareAlongLinks 114 = .ok (.goto (-48), 3) := by decide +kernel
theorem dX0_shareAlongLinks_117 : decode cX0_shareAlongLinks 117 = .ok (.return_, 1) := by decide +kernel
set_option maxRecDepth 20000 in
theorem ggX0_driveCoils_X0_cellAt : GoodIn wsX0_driveCoils wsX0_cellAt := goodIn_r _ [10] (by decide +kernel) (by decide +kernel)
set_option maxRecDepth 20000 in
theorem gX0_driveCoils_X0_cellAt : GoodIn wsX0_driveCoils (va_wsS RX0 58 yX0_cellAt wsX0_cellAt) := goodIn_app (goodIn_of _ (by decide +kernel)) ggX0_driveCoils_X0_cellAt
set_option maxRecDepth 20000 in
theorem ggX0_driveCoils_X0_isCoil : GoodIn wsX0_driveCoils wsX0_isCoil := goodIn_r _ [13] (by decide +kernel) (by decide +kernel)
set_option maxRecDepth 20000 in
theorem gX0_driveCoils_X0_isCoil : GoodIn wsX0_driveCoils (va_wsS RX0 55 yX0_isCoil wsX0_isCoil) := goodIn_app (goodIn_of _ (by decide +kernel)) ggX0_driveCoils_X0_isCoil
set_option maxRecDepth 20000 in
theorem ggX0_driveCoils_X0_pointAt : GoodIn wsX0_driveCoils wsX0_pointAt := goodIn_r _ [16] (by decide +kernel) (by decide +kernel)
set_option maxRecDepth 20000 in
theorem gX0_driveCoils_X0_pointAt : GoodIn wsX0_driveCoils (va_wsS RX0 62 yX0_pointAt wsX0_pointAt) := goodIn_app (goodIn_of _ (by decide +kernel)) ggX0_driveCoils_X0_pointAt
set_option maxRecDepth 20000 in
theorem ggX0_driveCoils_X0_coilValue : GoodIn wsX0_driveCoils wsX0_coilValue := goodIn_r _ [19] (by decide +kernel) (by decide +kernel)
set_option maxRecDepth 20000 in
theorem gX0_driveCoils_X0_coilValue : GoodIn wsX0_driveCoils (va_wsS RX0 90 yX0_coilValue wsX0_coilValue) := goodIn_app (goodIn_of _ (by decide +kernel)) ggX0_driveCoils_X0_coilValue
theorem dX0_driveCoils_0 : decode cX0_driveCoils 0 = .ok (.iconst 0, 1) := by decide +kernel
theorem dX0_driveCoils_1 : decode cX0_driveCoils 1 = .ok (.istore_n 1, 1) := by decide +kernel
theorem dX0_driveCoils_2 : decode cX0_driveCoils 2 = .ok (.iconst 0, 1) := by decide +kernel
theorem dX0_driveCoils_3 : decode cX0_driveCoils 3 = .ok (.istore_n 2, 1) := by decide +kernel
theorem dX0_driveCoils_4 : decode cX0_driveCoils 4 = .ok (.iload_n 2, 1) := by decide +kernel
theorem dX0_driveCoils_5 : decode cX0_driveCoils 5 = .ok (.aload_n 0, 1) := by decide +kernel
theorem dX0_driveCoils_6 : decode cX0_driveCoils 6 = .ok (.getfield 28, 3) := by decide +kernel
theorem dX0_driveCoils_9 : decode cX0_driveCoils 9 = .ok (.if_icmp .ge 87, 3) := by decide +kernel
theorem dX0_driveCoils_12 : decode cX0_driveCoils 12 = .ok (.iload_n 2, 1) := by decide +kernel
theorem dX0_driveCoils_13 : decode cX0_driveCoils 13 = .ok (.aload_n 0, 1) := by decide +kernel
theorem dX0_driveCoils_14 : decode cX0_driveCoils 14 = .ok (.getfield 32, 3) := by decide +kernel
theorem dX0_driveCoils_17 : decode cX0_driveCoils 17 = .ok (.iconst 1, 1) := by decide +kernel
theorem dX0_driveCoils_18 : decode cX0_driveCoils 18 = .ok (.isub, 1) := by decide +kernel
theorem dX0_driveCoils_19 : decode cX0_driveCoils 19 = .ok (.invokestatic 58, 3) := by decide +kernel
theorem dX0_driveCoils_22 : decode cX0_driveCoils 22 = .ok (.istore_n 3, 1) := by decide +kernel
theorem dX0_driveCoils_23 : decode cX0_driveCoils 23 = .ok (.aload_n 0, 1) := by decide +kernel
theorem dX0_driveCoils_24 : decode cX0_driveCoils 24 = .ok (.getfield 9, 3) := by decide +kernel
theorem dX0_driveCoils_27 : decode cX0_driveCoils 27 = .ok (.iload_n 3, 1) := by decide +kernel
theorem dX0_driveCoils_28 : decode cX0_driveCoils 28 = .ok (.iaload, 1) := by decide +kernel
theorem dX0_driveCoils_29 : decode cX0_driveCoils 29 = .ok (.invokestatic 55, 3) := by decide +kernel
theorem dX0_driveCoils_32 : decode cX0_driveCoils 32 = .ok (.ifCond .eq 58, 3) := by decide +kernel
theorem dX0_driveCoils_35 : decode cX0_driveCoils 35 = .ok (.aload_n 0, 1) := by decide +kernel
theorem dX0_driveCoils_36 : decode cX0_driveCoils 36 = .ok (.getfield 22, 3) := by decide +kernel
theorem dX0_driveCoils_39 : decode cX0_driveCoils 39 = .ok (.iload_n 2, 1) := by decide +kernel
theorem dX0_driveCoils_40 : decode cX0_driveCoils 40 = .ok (.aload_n 0, 1) := by decide +kernel
theorem dX0_driveCoils_41 : decode cX0_driveCoils 41 = .ok (.getfield 32, 3) := by decide +kernel
theorem dX0_driveCoils_44 : decode cX0_driveCoils 44 = .ok (.iconst 1, 1) := by decide +kernel
theorem dX0_driveCoils_45 : decode cX0_driveCoils 45 = .ok (.isub, 1) := by decide +kernel
theorem dX0_driveCoils_46 : decode cX0_driveCoils 46 = .ok (.invokestatic 62, 3) := by decide +kernel
theorem dX0_driveCoils_49 : decode cX0_driveCoils 49 = .ok (.iaload, 1) := by decide +kernel
theorem dX0_driveCoils_50 : decode cX0_driveCoils 50 = .ok (.istore 4, 2) := by decide +kernel
theorem dX0_driveCoils_52 : decode cX0_driveCoils 52 = .ok (.aload_n 0, 1) := by decide +kernel
theorem dX0_driveCoils_53 : decode cX0_driveCoils 53 = .ok (.getfield 13, 3) := by decide +kernel
theorem dX0_driveCoils_56 : decode cX0_driveCoils 56 = .ok (.iload_n 3, 1) := by decide +kernel
theorem dX0_driveCoils_57 : decode cX0_driveCoils 57 = .ok (.iaload, 1) := by decide +kernel
theorem dX0_driveCoils_58 : decode cX0_driveCoils 58 = .ok (.istore 5, 2) := by decide +kernel
theorem dX0_driveCoils_60 : decode cX0_driveCoils 60 = .ok (.aload_n 0, 1) := by decide +kernel
theorem dX0_driveCoils_61 : decode cX0_driveCoils 61 = .ok (.getfield 25, 3) := by decide +kernel
theorem dX0_driveCoils_64 : decode cX0_driveCoils 64 = .ok (.iload 5, 2) := by decide +kernel
theorem dX0_driveCoils_66 : decode cX0_driveCoils 66 = .ok (.aload_n 0, 1) := by decide +kernel
theorem dX0_driveCoils_67 : decode cX0_driveCoils 67 = .ok (.getfield 9, 3) := by decide +kernel
theorem dX0_driveCoils_70 : decode cX0_driveCoils 70 = .ok (.iload_n 3, 1) := by decide +kernel
theorem dX0_driveCoils_71 : decode cX0_driveCoils 71 = .ok (.iaload, 1) := by decide +kernel
theorem dX0_driveCoils_72 : decode cX0_driveCoils 72 = .ok (.iload 4, 2) := by decide +kernel
theorem dX0_driveCoils_74 : decode cX0_driveCoils 74 = .ok (.aload_n 0, 1) := by decide +kernel
theorem dX0_driveCoils_75 : decode cX0_driveCoils 75 = .ok (.getfield 25, 3) := by decide +kernel
theorem dX0_driveCoils_78 : decode cX0_driveCoils 78 = .ok (.iload 5, 2) := by decide +kernel
theorem dX0_driveCoils_80 : decode cX0_driveCoils 80 = .ok (.iaload, 1) := by decide +kernel
theorem dX0_driveCoils_81 : decode cX0_driveCoils 81 = .ok (.invokestatic 90, 3) := by decide +kernel
theorem dX0_driveCoils_84 : decode cX0_driveCoils 84 = .ok (.iastore, 1) := by decide +kernel
theorem dX0_driveCoils_85 : decode cX0_driveCoils 85 = .ok (.iload_n 1, 1) := by decide +kernel
theorem dX0_driveCoils_86 : decode cX0_driveCoils 86 = .ok (.iload 4, 2) := by decide +kernel
theorem dX0_driveCoils_88 : decode cX0_driveCoils 88 = .ok (.iadd, 1) := by decide +kernel
theorem dX0_driveCoils_89 : decode cX0_driveCoils 89 = .ok (.istore_n 1, 1) := by decide +kernel
theorem dX0_driveCoils_90 : decode cX0_driveCoils 90 = .ok (.iinc 2 1, 3) := by decide +kernel
theorem dX0_driveCoils_93 : decode cX0_driveCoils 93 = .ok (.goto (-89), 3) := by decide +kernel
theorem dX0_driveCoils_96 : decode cX0_driveCoils 96 = .ok (.iload_n 1, 1) := by decide +kernel
theorem dX0_driveCoils_97 : decode cX0_driveCoils 97 = .ok (.ireturn, 1) := by decide +kernel
set_option maxRecDepth 20000 in
theorem ggX0_lineSteps_X0_cellAt : GoodIn wsX0_lineSteps wsX0_cellAt := goodIn_r _ [8] (by decide +kernel) (by decide +kernel)
set_option maxRecDepth 20000 in
theorem gX0_lineSteps_X0_cellAt : GoodIn wsX0_lineSteps (va_wsS RX0 58 yX0_cellAt wsX0_cellAt) := goodIn_app (goodIn_of _ (by decide +kernel)) ggX0_lineSteps_X0_cellAt
set_option maxRecDepth 20000 in
theorem ggX0_lineSteps_X0_isCoil : GoodIn wsX0_lineSteps wsX0_isCoil := goodIn_r _ [11] (by decide +kernel) (by decide +kernel)
set_option maxRecDepth 20000 in
theorem gX0_lineSteps_X0_isCoil : GoodIn wsX0_lineSteps (va_wsS RX0 55 yX0_isCoil wsX0_isCoil) := goodIn_app (goodIn_of _ (by decide +kernel)) ggX0_lineSteps_X0_isCoil
set_option maxRecDepth 20000 in
theorem ggX0_lineSteps_X0_pointAt : GoodIn wsX0_lineSteps wsX0_pointAt := goodIn_r _ [14] (by decide +kernel) (by decide +kernel)
set_option maxRecDepth 20000 in
theorem gX0_lineSteps_X0_pointAt : GoodIn wsX0_lineSteps (va_wsS RX0 62 yX0_pointAt wsX0_pointAt) := goodIn_app (goodIn_of _ (by decide +kernel)) ggX0_lineSteps_X0_pointAt
set_option maxRecDepth 20000 in
theorem ggX0_lineSteps_X0_joiningSteps : GoodIn wsX0_lineSteps wsX0_joiningSteps := goodIn_r _ [17] (by decide +kernel) (by decide +kernel)
set_option maxRecDepth 20000 in
theorem gX0_lineSteps_X0_joiningSteps : GoodIn wsX0_lineSteps (va_wsS RX0 97 yX0_joiningSteps wsX0_joiningSteps) := goodIn_app (goodIn_of _ (by decide +kernel)) ggX0_lineSteps_X0_joiningSteps
theorem dX0_lineSteps_0 : decode cX0_lineSteps 0 = .ok (.iconst 0, 1) := by decide +kernel
theorem dX0_lineSteps_1 : decode cX0_lineSteps 1 = .ok (.istore_n 2, 1) := by decide +kernel
theorem dX0_lineSteps_2 : decode cX0_lineSteps 2 = .ok (.iconst 0, 1) := by decide +kernel
theorem dX0_lineSteps_3 : decode cX0_lineSteps 3 = .ok (.istore_n 3, 1) := by decide +kernel
theorem dX0_lineSteps_4 : decode cX0_lineSteps 4 = .ok (.iconst 0, 1) := by decide +kernel
theorem dX0_lineSteps_5 : decode cX0_lineSteps 5 = .ok (.istore 4, 2) := by decide +kernel
theorem dX0_lineSteps_7 : decode cX0_lineSteps 7 = .ok (.iload 4, 2) := by decide +kernel
theorem dX0_lineSteps_9 : decode cX0_lineSteps 9 = .ok (.aload_n 0, 1) := by decide +kernel
theorem dX0_lineSteps_10 : decode cX0_lineSteps 10 = .ok (.getfield 28, 3) := by decide +kernel
theorem dX0_lineSteps_13 : decode cX0_lineSteps 13 = .ok (.if_icmp .ge 91, 3) := by decide +kernel
theorem dX0_lineSteps_16 : decode cX0_lineSteps 16 = .ok (.aload_n 0, 1) := by decide +kernel
theorem dX0_lineSteps_17 : decode cX0_lineSteps 17 = .ok (.getfield 9, 3) := by decide +kernel
theorem dX0_lineSteps_20 : decode cX0_lineSteps 20 = .ok (.iload 4, 2) := by decide +kernel
theorem dX0_lineSteps_22 : decode cX0_lineSteps 22 = .ok (.iload_n 1, 1) := by decide +kernel
theorem dX0_lineSteps_23 : decode cX0_lineSteps 23 = .ok (.iconst 1, 1) := by decide +kernel
theorem dX0_lineSteps_24 : decode cX0_lineSteps 24 = .ok (.isub, 1) := by decide +kernel
theorem dX0_lineSteps_25 : decode cX0_lineSteps 25 = .ok (.invokestatic 58, 3) := by decide +kernel
theorem dX0_lineSteps_28 : decode cX0_lineSteps 28 = .ok (.iaload, 1) := by decide +kernel
theorem dX0_lineSteps_29 : decode cX0_lineSteps 29 = .ok (.istore 5, 2) := by decide +kernel
theorem dX0_lineSteps_31 : decode cX0_lineSteps 31 = .ok (.iload 5, 2) := by decide +kernel
theorem dX0_lineSteps_33 : decode cX0_lineSteps 33 = .ok (.invokestatic 55, 3) := by decide +kernel
theorem dX0_lineSteps_36 : decode cX0_lineSteps 36 = .ok (.ifCond .eq 6, 3) := by decide +kernel
theorem dX0_lineSteps_39 : decode cX0_lineSteps 39 = .ok (.goto 59, 3) := by decide +kernel
theorem dX0_lineSteps_42 : decode cX0_lineSteps 42 = .ok (.iload 5, 2) := by decide +kernel
theorem dX0_lineSteps_44 : decode cX0_lineSteps 44 = .ok (.ifCond .eq 17, 3) := by decide +kernel
theorem dX0_lineSteps_47 : decode cX0_lineSteps 47 = .ok (.iload_n 2, 1) := by decide +kernel
theorem dX0_lineSteps_48 : decode cX0_lineSteps 48 = .ok (.iconst 1, 1) := by decide +kernel
theorem dX0_lineSteps_49 : decode cX0_lineSteps 49 = .ok (.getstatic 94, 3) := by decide +kernel
theorem dX0_lineSteps_52 : decode cX0_lineSteps 52 = .ok (.iload 5, 2) := by decide +kernel
theorem dX0_lineSteps_54 : decode cX0_lineSteps 54 = .ok (.iaload, 1) := by decide +kernel
theorem dX0_lineSteps_55 : decode cX0_lineSteps 55 = .ok (.iadd, 1) := by decide +kernel
theorem dX0_lineSteps_56 : decode cX0_lineSteps 56 = .ok (.iadd, 1) := by decide +kernel
theorem dX0_lineSteps_57 : decode cX0_lineSteps 57 = .ok (.istore_n 2, 1) := by decide +kernel
theorem dX0_lineSteps_58 : decode cX0_lineSteps 58 = .ok (.iinc 3 1, 3) := by decide +kernel
theorem dX0_lineSteps_61 : decode cX0_lineSteps 61 = .ok (.aload_n 0, 1) := by decide +kernel
theorem dX0_lineSteps_62 : decode cX0_lineSteps 62 = .ok (.getfield 19, 3) := by decide +kernel
theorem dX0_lineSteps_65 : decode cX0_lineSteps 65 = .ok (.iload 4, 2) := by decide +kernel
theorem dX0_lineSteps_67 : decode cX0_lineSteps 67 = .ok (.iload_n 1, 1) := by decide +kernel
theorem dX0_lineSteps_68 : decode cX0_lineSteps 68 = .ok (.invokestatic 62, 3) := by decide +kernel
theorem dX0_lineSteps_71 : decode cX0_lineSteps 71 = .ok (.iaload, 1) := by decide +kernel
theorem dX0_lineSteps_72 : decode cX0_lineSteps 72 = .ok (.ifCond .ne 7, 3) := by decide +kernel
theorem dX0_lineSteps_75 : decode cX0_lineSteps 75 = .ok (.iconst 1, 1) := by decide +kernel
theorem dX0_lineSteps_76 : decode cX0_lineSteps 76 = .ok (.goto 4, 3) := by decide +kernel
theorem dX0_lineSteps_79 : decode cX0_lineSteps 79 = .ok (.iconst 0, 1) := by decide +kernel
theorem dX0_lineSteps_80 : decode cX0_lineSteps 80 = .ok (.istore 6, 2) := by decide +kernel
theorem dX0_lineSteps_82 : decode cX0_lineSteps 82 = .ok (.iload 6, 2) := by decide +kernel
theorem dX0_lineSteps_84 : decode cX0_lineSteps 84 = .ok (.ifCond .eq 14, 3) := by decide +kernel
theorem dX0_lineSteps_87 : decode cX0_lineSteps 87 = .ok (.iload_n 2, 1) := by decide +kernel
theorem dX0_lineSteps_88 : decode cX0_lineSteps 88 = .ok (.iload_n 3, 1) := by decide +kernel
theorem dX0_lineSteps_89 : decode cX0_lineSteps 89 = .ok (.invokestatic 97, 3) := by decide +kernel
theorem dX0_lineSteps_92 : decode cX0_lineSteps 92 = .ok (.iconst 1, 1) := by decide +kernel
theorem dX0_lineSteps_93 : decode cX0_lineSteps 93 = .ok (.iadd, 1) := by decide +kernel
theorem dX0_lineSteps_94 : decode cX0_lineSteps 94 = .ok (.iadd, 1) := by decide +kernel
theorem dX0_lineSteps_95 : decode cX0_lineSteps 95 = .ok (.istore_n 2, 1) := by decide +kernel
theorem dX0_lineSteps_96 : decode cX0_lineSteps 96 = .ok (.iconst 0, 1) := by decide +kernel
theorem dX0_lineSteps_97 : decode cX0_lineSteps 97 = .ok (.istore_n 3, 1) := by decide +kernel
theorem dX0_lineSteps_98 : decode cX0_lineSteps 98 = .ok (.iinc 4 1, 3) := by decide +kernel
theorem dX0_lineSteps_101 : decode cX0_lineSteps 101 = .ok (.goto (-94), 3) := by decide +kernel
theorem dX0_lineSteps_104 : decode cX0_lineSteps 104 = .ok (.iload_n 2, 1) := by decide +kernel
theorem dX0_lineSteps_105 : decode cX0_lineSteps 105 = .ok (.ireturn, 1) := by decide +kernel
set_option maxRecDepth 20000 in
theorem ggX0_coilSteps_X0_cellAt : GoodIn wsX0_coilSteps wsX0_cellAt := goodIn_r _ [8] (by decide +kernel) (by decide +kernel)
set_option maxRecDepth 20000 in
theorem gX0_coilSteps_X0_cellAt : GoodIn wsX0_coilSteps (va_wsS RX0 58 yX0_cellAt wsX0_cellAt) := goodIn_app (goodIn_of _ (by decide +kernel)) ggX0_coilSteps_X0_cellAt
set_option maxRecDepth 20000 in
theorem ggX0_coilSteps_X0_isCoil : GoodIn wsX0_coilSteps wsX0_isCoil := goodIn_r _ [11] (by decide +kernel) (by decide +kernel)
set_option maxRecDepth 20000 in
theorem gX0_coilSteps_X0_isCoil : GoodIn wsX0_coilSteps (va_wsS RX0 55 yX0_isCoil wsX0_isCoil) := goodIn_app (goodIn_of _ (by decide +kernel)) ggX0_coilSteps_X0_isCoil
theorem dX0_coilSteps_0 : decode cX0_coilSteps 0 = .ok (.iconst 0, 1) := by decide +kernel
theorem dX0_coilSteps_1 : decode cX0_coilSteps 1 = .ok (.istore_n 1, 1) := by decide +kernel
theorem dX0_coilSteps_2 : decode cX0_coilSteps 2 = .ok (.iconst 0, 1) := by decide +kernel
theorem dX0_coilSteps_3 : decode cX0_coilSteps 3 = .ok (.istore_n 2, 1) := by decide +kernel
theorem dX0_coilSteps_4 : decode cX0_coilSteps 4 = .ok (.iload_n 2, 1) := by decide +kernel
theorem dX0_coilSteps_5 : decode cX0_coilSteps 5 = .ok (.aload_n 0, 1) := by decide +kernel
theorem dX0_coilSteps_6 : decode cX0_coilSteps 6 = .ok (.getfield 28, 3) := by decide +kernel
theorem dX0_coilSteps_9 : decode cX0_coilSteps 9 = .ok (.if_icmp .ge 40, 3) := by decide +kernel
theorem dX0_coilSteps_12 : decode cX0_coilSteps 12 = .ok (.aload_n 0, 1) := by decide +kernel
theorem dX0_coilSteps_13 : decode cX0_coilSteps 13 = .ok (.getfield 9, 3) := by decide +kernel
theorem dX0_coilSteps_16 : decode cX0_coilSteps 16 = .ok (.iload_n 2, 1) := by decide +kernel
theorem dX0_coilSteps_17 : decode cX0_coilSteps 17 = .ok (.aload_n 0, 1) := by decide +kernel
theorem dX0_coilSteps_18 : decode cX0_coilSteps 18 = .ok (.getfield 32, 3) := by decide +kernel
theorem dX0_coilSteps_21 : decode cX0_coilSteps 21 = .ok (.iconst 1, 1) := by decide +kernel
theorem dX0_coilSteps_22 : decode cX0_coilSteps 22 = .ok (.isub, 1) := by decide +kernel
theorem dX0_coilSteps_23 : decode cX0_coilSteps 23 = .ok (.invokestatic 58, 3) := by decide +kernel
theorem dX0_coilSteps_26 : decode cX0_coilSteps 26 = .ok (.iaload, 1) := by decide +kernel
theorem dX0_coilSteps_27 : decode cX0_coilSteps 27 = .ok (.istore_n 3, 1) := by decide +kernel
theorem dX0_coilSteps_28 : decode cX0_coilSteps 28 = .ok (.iload_n 3, 1) := by decide +kernel
theorem dX0_coilSteps_29 : decode cX0_coilSteps 29 = .ok (.invokestatic 55, 3) := by decide +kernel
theorem dX0_coilSteps_32 : decode cX0_coilSteps 32 = .ok (.ifCond .eq 11, 3) := by decide +kernel
theorem dX0_coilSteps_35 : decode cX0_coilSteps 35 = .ok (.iload_n 1, 1) := by decide +kernel
theorem dX0_coilSteps_36 : decode cX0_coilSteps 36 = .ok (.getstatic 94, 3) := by decide +kernel
theorem dX0_coilSteps_39 : decode cX0_coilSteps 39 = .ok (.iload_n 3, 1) := by decide +kernel
theorem dX0_coilSteps_40 : decode cX0_coilSteps 40 = .ok (.iaload, 1) := by decide +kernel
theorem dX0_coilSteps_41 : decode cX0_coilSteps 41 = .ok (.iadd, 1) := by decide +kernel
theorem dX0_coilSteps_42 : decode cX0_coilSteps 42 = .ok (.istore_n 1, 1) := by decide +kernel
theorem dX0_coilSteps_43 : decode cX0_coilSteps 43 = .ok (.iinc 2 1, 3) := by decide +kernel
theorem dX0_coilSteps_46 : decode cX0_coilSteps 46 = .ok (.goto (-42), 3) := by decide +kernel
theorem dX0_coilSteps_49 : decode cX0_coilSteps 49 = .ok (.iload_n 1, 1) := by decide +kernel
theorem dX0_coilSteps_50 : decode cX0_coilSteps 50 = .ok (.ireturn, 1) := by decide +kernel
theorem dX0_isRow_0 : decode cX0_isRow 0 = .ok (.iload_n 1, 1) := by decide +kernel
theorem dX0_isRow_1 : decode cX0_isRow 1 = .ok (.ifCond .lt 15, 3) := by decide +kernel
theorem dX0_isRow_4 : decode cX0_isRow 4 = .ok (.iload_n 1, 1) := by decide +kernel
theorem dX0_isRow_5 : decode cX0_isRow 5 = .ok (.aload_n 0, 1) := by decide +kernel
theorem dX0_isRow_6 : decode cX0_isRow 6 = .ok (.getfield 28, 3) := by decide +kernel
theorem dX0_isRow_9 : decode cX0_isRow 9 = .ok (.if_icmp .ge 7, 3) := by decide +kernel
theorem dX0_isRow_12 : decode cX0_isRow 12 = .ok (.iconst 1, 1) := by decide +kernel
theorem dX0_isRow_13 : decode cX0_isRow 13 = .ok (.goto 4, 3) := by decide +kernel
theorem dX0_isRow_16 : decode cX0_isRow 16 = .ok (.iconst 0, 1) := by decide +kernel
theorem dX0_isRow_17 : decode cX0_isRow 17 = .ok (.ireturn, 1) := by decide +kernel
theorem dX0_isLine_0 : decode cX0_isLine 0 = .ok (.iload_n 1, 1) := by decide +kernel
theorem dX0_isLine_1 : decode cX0_isLine 1 = .ok (.ifCond .lt 15, 3) := by decide +kernel
theorem dX0_isLine_4 : decode cX0_isLine 4 = .ok (.iload_n 1, 1) := by decide +kernel
theorem dX0_isLine_5 : decode cX0_isLine 5 = .ok (.aload_n 0, 1) := by decide +kernel
theorem dX0_isLine_6 : decode cX0_isLine 6 = .ok (.getfield 32, 3) := by decide +kernel
theorem dX0_isLine_9 : decode cX0_isLine 9 = .ok (.if_icmp .gt 7, 3) := by decide +kernel
theorem dX0_isLine_12 : decode cX0_isLine 12 = .ok (.iconst 1, 1) := by decide +kernel
theorem dX0_isLine_13 : decode cX0_isLine 13 = .ok (.goto 4, 3) := by decide +kernel
theorem dX0_isLine_16 : decode cX0_isLine 16 = .ok (.iconst 0, 1) := by decide +kernel
theorem dX0_isLine_17 : decode cX0_isLine 17 = .ok (.ireturn, 1) := by decide +kernel
theorem dX0_joiningSteps_0 : decode cX0_joiningSteps 0 = .ok (.iload_n 0, 1) := by decide +kernel
theorem dX0_joiningSteps_1 : decode cX0_joiningSteps 1 = .ok (.ifCond .ne 7, 3) := by decide +kernel
theorem dX0_joiningSteps_4 : decode cX0_joiningSteps 4 = .ok (.iconst 1, 1) := by decide +kernel
theorem dX0_joiningSteps_5 : decode cX0_joiningSteps 5 = .ok (.goto 6, 3) := by decide +kernel
theorem dX0_joiningSteps_8 : decode cX0_joiningSteps 8 = .ok (.iload_n 0, 1) := by decide +kernel
theorem dX0_joiningSteps_9 : decode cX0_joiningSteps 9 = .ok (.iconst 1, 1) := by decide +kernel
theorem dX0_joiningSteps_10 : decode cX0_joiningSteps 10 = .ok (.isub, 1) := by decide +kernel
theorem dX0_joiningSteps_11 : decode cX0_joiningSteps 11 = .ok (.ireturn, 1) := by decide +kernel
theorem dX0_letsThrough_0 : decode cX0_letsThrough 0 = .ok (.iload_n 0, 1) := by decide +kernel
theorem dX0_letsThrough_1 : decode cX0_letsThrough 1 = .ok (.tableswitch 88 1 5 #[35, 37, 48, 58, 73], 35) := by decide +kernel
theorem dX0_letsThrough_36 : decode cX0_letsThrough 36 = .ok (.iconst 1, 1) := by decide +kernel
theorem dX0_letsThrough_37 : decode cX0_letsThrough 37 = .ok (.ireturn, 1) := by decide +kernel
theorem dX0_letsThrough_38 : decode cX0_letsThrough 38 = .ok (.iload_n 1, 1) := by decide +kernel
theorem dX0_letsThrough_39 : decode cX0_letsThrough 39 = .ok (.iconst 1, 1) := by decide +kernel
theorem dX0_letsThrough_40 : decode cX0_letsThrough 40 = .ok (.if_icmp .ne 7, 3) := by decide +kernel
theorem dX0_letsThrough_43 : decode cX0_letsThrough 43 = .ok (.iconst 1, 1) := by decide +kernel
theorem dX0_letsThrough_44 : decode cX0_letsThrough 44 = .ok (.goto 4, 3) := by decide +kernel
theorem dX0_letsThrough_47 : decode cX0_letsThrough 47 = .ok (.iconst 0, 1) := by decide +kernel
theorem dX0_letsThrough_48 : decode cX0_letsThrough 48 = .ok (.ireturn, 1) := by decide +kernel
theorem dX0_letsThrough_49 : decode cX0_letsThrough 49 = .ok (.iload_n 1, 1) := by decide +kernel
theorem dX0_letsThrough_50 : decode cX0_letsThrough 50 = .ok (.ifCond .ne 7, 3) := by decide +kernel
theorem dX0_letsThrough_53 : decode cX0_letsThrough 53 = .ok (.iconst 1, 1) := by decide +kernel
theorem dX0_letsThrough_54 : decode cX0_letsThrough 54 = .ok (.goto 4, 3) := by decide +kernel
theorem dX0_letsThrough_57 : decode cX0_letsThrough 57 = .ok (.iconst 0, 1) := by decide +kernel
theorem dX0_letsThrough_58 : decode cX0_letsThrough 58 = .ok (.ireturn, 1) := by decide +kernel
theorem dX0_letsThrough_59 : decode cX0_letsThrough 59 = .ok (.iload_n 1, 1) := by decide +kernel
theorem dX0_letsThrough_60 : decode cX0_letsThrough 60 = .ok (.iconst 1, 1) := by decide +kernel
theorem dX0_letsThrough_61 : decode cX0_letsThrough 61 = .ok (.if_icmp .ne 11, 3) := by decide +kernel
theorem dX0_letsThrough_64 : decode cX0_letsThrough 64 = .ok (.iload_n 2, 1) := by decide +kernel
theorem dX0_letsThrough_65 : decode cX0_letsThrough 65 = .ok (.ifCond .ne 7, 3) := by decide +kernel
theorem dX0_letsThrough_68 : decode cX0_letsThrough 68 = .ok (.iconst 1, 1) := by decide +kernel
theorem dX0_letsThrough_69 : decode cX0_letsThrough 69 = .ok (.goto 4, 3) := by decide +kernel
theorem dX0_letsThrough_72 : decode cX0_letsThrough 72 = .ok (.iconst 0, 1) := by decide +kernel
theorem dX0_letsThrough_73 : decode cX0_letsThrough 73 = .ok (.ireturn, 1) := by decide +kernel
theorem dX0_letsThrough_74 : decode cX0_letsThrough 74 = .ok (.iload_n 1, 1) := by decide +kernel
theorem dX0_letsThrough_75 : decode cX0_letsThrough 75 = .ok (.ifCond .ne 12, 3) := by decide +kernel
theorem dX0_letsThrough_78 : decode cX0_letsThrough 78 = .ok (.iload_n 2, 1) := by decide +kernel
theorem dX0_letsThrough_79 : decode cX0_letsThrough 79 = .ok (.iconst 1, 1) := by decide +kernel
theorem dX0_letsThrough_80 : decode cX0_letsThrough 80 = .ok (.if_icmp .ne 7, 3) := by decide +kernel
theorem dX0_letsThrough_83 : decode cX0_letsThrough 83 = .ok (.iconst 1, 1) := by decide +kernel
theorem dX0_letsThrough_84 : decode cX0_letsThrough 84 = .ok (.goto 4, 3) := by decide +kernel
theorem dX0_letsThrough_87 : decode cX0_letsThrough 87 = .ok (.iconst 0, 1) := by decide +kernel
theorem dX0_letsThrough_88 : decode cX0_letsThrough 88 = .ok (.ireturn, 1) := by decide +kernel
theorem dX0_letsThrough_89 : decode cX0_letsThrough 89 = .ok (.iconst 0, 1) := by decide +kernel
theorem dX0_letsThrough_90 : decode cX0_letsThrough 90 = .ok (.ireturn, 1) := by decide +kernel
theorem dX0_coilValue_0 : decode cX0_coilValue 0 = .ok (.iload_n 0, 1) := by decide +kernel
theorem dX0_coilValue_1 : decode cX0_coilValue 1 = .ok (.tableswitch 44 6 8 #[27, 29, 33], 27) := by decide +kernel
theorem dX0_coilValue_28 : decode cX0_coilValue 28 = .ok (.iload_n 1, 1) := by decide +kernel
theorem dX0_coilValue_29 : decode cX0_coilValue 29 = .ok (.ireturn, 1) := by decide +kernel
theorem dX0_coilValue_30 : decode cX0_coilValue 30 = .ok (.iconst 1, 1) := by decide +kernel
theorem dX0_coilValue_31 : decode cX0_coilValue 31 = .ok (.iload_n 1, 1) := by decide +kernel
theorem dX0_coilValue_32 : decode cX0_coilValue 32 = .ok (.isub, 1) := by decide +kernel
theorem dX0_coilValue_33 : decode cX0_coilValue 33 = .ok (.ireturn, 1) := by decide +kernel
theorem dX0_coilValue_34 : decode cX0_coilValue 34 = .ok (.iload_n 1, 1) := by decide +kernel
theorem dX0_coilValue_35 : decode cX0_coilValue 35 = .ok (.iconst 1, 1) := by decide +kernel
theorem dX0_coilValue_36 : decode cX0_coilValue 36 = .ok (.if_icmp .ne 7, 3) := by decide +kernel
theorem dX0_coilValue_39 : decode cX0_coilValue 39 = .ok (.iconst 1, 1) := by decide +kernel
theorem dX0_coilValue_40 : decode cX0_coilValue 40 = .ok (.goto 4, 3) := by decide +kernel
theorem dX0_coilValue_43 : decode cX0_coilValue 43 = .ok (.iload_n 2, 1) := by decide +kernel
theorem dX0_coilValue_44 : decode cX0_coilValue 44 = .ok (.ireturn, 1) := by decide +kernel
theorem dX0_coilValue_45 : decode cX0_coilValue 45 = .ok (.iload_n 1, 1) := by decide +kernel
theorem dX0_coilValue_46 : decode cX0_coilValue 46 = .ok (.iconst 1, 1) := by decide +kernel
theorem dX0_coilValue_47 : decode cX0_coilValue 47 = .ok (.if_icmp .ne 7, 3) := by decide +kernel
theorem dX0_coilValue_50 : decode cX0_coilValue 50 = .ok (.iconst 0, 1) := by decide +kernel
theorem dX0_coilValue_51 : decode cX0_coilValue 51 = .ok (.goto 4, 3) := by decide +kernel
theorem dX0_coilValue_54 : decode cX0_coilValue 54 = .ok (.iload_n 2, 1) := by decide +kernel
theorem dX0_coilValue_55 : decode cX0_coilValue 55 = .ok (.ireturn, 1) := by decide +kernel
theorem dX0_isVariable_0 : decode cX0_isVariable 0 = .ok (.iload_n 0, 1) := by decide +kernel
theorem dX0_isVariable_1 : decode cX0_isVariable 1 = .ok (.ifCond .lt 13, 3) := by decide +kernel
theorem dX0_isVariable_4 : decode cX0_isVariable 4 = .ok (.iload_n 0, 1) := by decide +kernel
theorem dX0_isVariable_5 : decode cX0_isVariable 5 = .ok (.bipush 40, 2) := by decide +kernel
theorem dX0_isVariable_7 : decode cX0_isVariable 7 = .ok (.if_icmp .ge 7, 3) := by decide +kernel
theorem dX0_isVariable_10 : decode cX0_isVariable 10 = .ok (.iconst 1, 1) := by decide +kernel
theorem dX0_isVariable_11 : decode cX0_isVariable 11 = .ok (.goto 4, 3) := by decide +kernel
theorem dX0_isVariable_14 : decode cX0_isVariable 14 = .ok (.iconst 0, 1) := by decide +kernel
theorem dX0_isVariable_15 : decode cX0_isVariable 15 = .ok (.ireturn, 1) := by decide +kernel
theorem dX0_hasVariable_0 : decode cX0_hasVariable 0 = .ok (.iload_n 0, 1) := by decide +kernel
theorem dX0_hasVariable_1 : decode cX0_hasVariable 1 = .ok (.iconst 2, 1) := by decide +kernel
theorem dX0_hasVariable_2 : decode cX0_hasVariable 2 = .ok (.if_icmp .lt 7, 3) := by decide +kernel
theorem dX0_hasVariable_5 : decode cX0_hasVariable 5 = .ok (.iconst 1, 1) := by decide +kernel
theorem dX0_hasVariable_6 : decode cX0_hasVariable 6 = .ok (.goto 4, 3) := by decide +kernel
theorem dX0_hasVariable_9 : decode cX0_hasVariable 9 = .ok (.iconst 0, 1) := by decide +kernel
theorem dX0_hasVariable_10 : decode cX0_hasVariable 10 = .ok (.ireturn, 1) := by decide +kernel
theorem dX0_isCoil_0 : decode cX0_isCoil 0 = .ok (.iload_n 0, 1) := by decide +kernel
theorem dX0_isCoil_1 : decode cX0_isCoil 1 = .ok (.bipush 6, 2) := by decide +kernel
theorem dX0_isCoil_3 : decode cX0_isCoil 3 = .ok (.if_icmp .lt 7, 3) := by decide +kernel
theorem dX0_isCoil_6 : decode cX0_isCoil 6 = .ok (.iconst 1, 1) := by decide +kernel
theorem dX0_isCoil_7 : decode cX0_isCoil 7 = .ok (.goto 4, 3) := by decide +kernel
theorem dX0_isCoil_10 : decode cX0_isCoil 10 = .ok (.iconst 0, 1) := by decide +kernel
theorem dX0_isCoil_11 : decode cX0_isCoil 11 = .ok (.ireturn, 1) := by decide +kernel
theorem dX0_cellAt_0 : decode cX0_cellAt 0 = .ok (.iload_n 0, 1) := by decide +kernel
theorem dX0_cellAt_1 : decode cX0_cellAt 1 = .ok (.bipush 12, 2) := by decide +kernel
theorem dX0_cellAt_3 : decode cX0_cellAt 3 = .ok (.imul, 1) := by decide +kernel
theorem dX0_cellAt_4 : decode cX0_cellAt 4 = .ok (.iload_n 1, 1) := by decide +kernel
theorem dX0_cellAt_5 : decode cX0_cellAt 5 = .ok (.iadd, 1) := by decide +kernel
theorem dX0_cellAt_6 : decode cX0_cellAt 6 = .ok (.ireturn, 1) := by decide +kernel
theorem dX0_pointAt_0 : decode cX0_pointAt 0 = .ok (.iload_n 0, 1) := by decide +kernel
theorem dX0_pointAt_1 : decode cX0_pointAt 1 = .ok (.bipush 13, 2) := by decide +kernel
theorem dX0_pointAt_3 : decode cX0_pointAt 3 = .ok (.imul, 1) := by decide +kernel
theorem dX0_pointAt_4 : decode cX0_pointAt 4 = .ok (.iload_n 1, 1) := by decide +kernel
theorem dX0_pointAt_5 : decode cX0_pointAt 5 = .ok (.iadd, 1) := by decide +kernel
theorem dX0_pointAt_6 : decode cX0_pointAt 6 = .ok (.ireturn, 1) := by decide +kernel
set_option maxRecDepth 20000 in
theorem ggX1_init_X1_begin : GoodIn wsX1_init wsX1_begin := goodIn_r _ [17, 18, 19, 5, 6, 7, 9, 20, 21, 22, 23, 24, 25, 26, 27, 28, 29, 30] (by decide +kernel) (by decide +kernel)
set_option maxRecDepth 20000 in
theorem gX1_init_X1_begin : GoodIn wsX1_init (wsV RX1 32 RX1 yX1_begin wsX1_begin) := goodIn_app (goodIn_of _ (by decide +kernel)) ggX1_init_X1_begin
theorem dX1_init_0 : decode cX1_init 0 = .ok (.aload_n 0, 1) := by decide +kernel
theorem dX1_init_1 : decode cX1_init 1 = .ok (.invokespecial 1, 3) := by decide +kernel
theorem dX1_init_4 : decode cX1_init 4 = .ok (.aload_n 0, 1) := by decide +kernel
theorem dX1_init_5 : decode cX1_init 5 = .ok (.sipush 144, 3) := by decide +kernel
theorem dX1_init_8 : decode cX1_init 8 = .ok (.newarray .int, 2) := by decide +kernel
theorem dX1_init_10 : decode cX1_init 10 = .ok (.putfield 7, 3) := by decide +kernel
theorem dX1_init_13 : decode cX1_init 13 = .ok (.aload_n 0, 1) := by decide +kernel
theorem dX1_init_14 : decode cX1_init 14 = .ok (.sipush 144, 3) := by decide +kernel
theorem dX1_init_17 : decode cX1_init 17 = .ok (.newarray .int, 2) := by decide +kernel
theorem dX1_init_19 : decode cX1_init 19 = .ok (.putfield 13, 3) := by decide +kernel
theorem dX1_init_22 : decode cX1_init 22 = .ok (.aload_n 0, 1) := by decide +kernel
theorem dX1_init_23 : decode cX1_init 23 = .ok (.sipush 144, 3) := by decide +kernel
theorem dX1_init_26 : decode cX1_init 26 = .ok (.newarray .int, 2) := by decide +kernel
theorem dX1_init_28 : decode cX1_init 28 = .ok (.putfield 16, 3) := by decide +kernel
theorem dX1_init_31 : decode cX1_init 31 = .ok (.aload_n 0, 1) := by decide +kernel
theorem dX1_init_32 : decode cX1_init 32 = .ok (.sipush 156, 3) := by decide +kernel
theorem dX1_init_35 : decode cX1_init 35 = .ok (.newarray .boolean, 2) := by decide +kernel
theorem dX1_init_37 : decode cX1_init 37 = .ok (.putfield 19, 3) := by decide +kernel
theorem dX1_init_40 : decode cX1_init 40 = .ok (.aload_n 0, 1) := by decide +kernel
theorem dX1_init_41 : decode cX1_init 41 = .ok (.bipush 40, 2) := by decide +kernel
theorem dX1_init_43 : decode cX1_init 43 = .ok (.newarray .int, 2) := by decide +kernel
theorem dX1_init_45 : decode cX1_init 45 = .ok (.putfield 23, 3) := by decide +kernel
theorem dX1_init_48 : decode cX1_init 48 = .ok (.aload_n 0, 1) := by decide +kernel
theorem dX1_init_49 : decode cX1_init 49 = .ok (.bipush 40, 2) := by decide +kernel
theorem dX1_init_51 : decode cX1_init 51 = .ok (.newarray .int, 2) := by decide +kernel
theorem dX1_init_53 : decode cX1_init 53 = .ok (.putfield 26, 3) := by decide +kernel
theorem dX1_init_56 : decode cX1_init 56 = .ok (.aload_n 0, 1) := by decide +kernel
theorem dX1_init_57 : decode cX1_init 57 = .ok (.sipush 156, 3) := by decide +kernel
theorem dX1_init_60 : decode cX1_init 60 = .ok (.newarray .boolean, 2) := by decide +kernel
theorem dX1_init_62 : decode cX1_init 62 = .ok (.putfield 29, 3) := by decide +kernel
theorem dX1_init_65 : decode cX1_init 65 = .ok (.aload_n 0, 1) := by decide +kernel
theorem dX1_init_66 : decode cX1_init 66 = .ok (.iconst 1, 1) := by decide +kernel
theorem dX1_init_67 : decode cX1_init 67 = .ok (.iconst 1, 1) := by decide +kernel
theorem dX1_init_68 : decode cX1_init 68 = .ok (.invokevirtual 32, 3) := by decide +kernel
theorem dX1_init_71 : decode cX1_init 71 = .ok (.pop, 1) := by decide +kernel
theorem dX1_init_72 : decode cX1_init 72 = .ok (.return_, 1) := by decide +kernel
theorem dX1_isCell_0 : decode cX1_isCell 0 = .ok (.iload_n 1, 1) := by decide +kernel
theorem dX1_isCell_1 : decode cX1_isCell 1 = .ok (.ifCond .lt 27, 3) := by decide +kernel
theorem dX1_isCell_4 : decode cX1_isCell 4 = .ok (.iload_n 1, 1) := by decide +kernel
theorem dX1_isCell_5 : decode cX1_isCell 5 = .ok (.aload_n 0, 1) := by decide +kernel
theorem dX1_isCell_6 : decode cX1_isCell 6 = .ok (.getfield 36, 3) := by decide +kernel
theorem dX1_isCell_9 : decode cX1_isCell 9 = .ok (.if_icmp .ge 19, 3) := by decide +kernel
theorem dX1_isCell_12 : decode cX1_isCell 12 = .ok (.iload_n 2, 1) := by decide +kernel
theorem dX1_isCell_13 : decode cX1_isCell 13 = .ok (.ifCond .lt 15, 3) := by decide +kernel
theorem dX1_isCell_16 : decode cX1_isCell 16 = .ok (.iload_n 2, 1) := by decide +kernel
theorem dX1_isCell_17 : decode cX1_isCell 17 = .ok (.aload_n 0, 1) := by decide +kernel
theorem dX1_isCell_18 : decode cX1_isCell 18 = .ok (.getfield 40, 3) := by decide +kernel
theorem dX1_isCell_21 : decode cX1_isCell 21 = .ok (.if_icmp .ge 7, 3) := by decide +kernel
theorem dX1_isCell_24 : decode cX1_isCell 24 = .ok (.iconst 1, 1) := by decide +kernel
theorem dX1_isCell_25 : decode cX1_isCell 25 = .ok (.goto 4, 3) := by decide +kernel
theorem dX1_isCell_28 : decode cX1_isCell 28 = .ok (.iconst 0, 1) := by decide +kernel
theorem dX1_isCell_29 : decode cX1_isCell 29 = .ok (.ireturn, 1) := by decide +kernel
theorem dX1_isVariable_0 : decode cX1_isVariable 0 = .ok (.iload_n 0, 1) := by decide +kernel
theorem dX1_isVariable_1 : decode cX1_isVariable 1 = .ok (.ifCond .lt 13, 3) := by decide +kernel
theorem dX1_isVariable_4 : decode cX1_isVariable 4 = .ok (.iload_n 0, 1) := by decide +kernel
theorem dX1_isVariable_5 : decode cX1_isVariable 5 = .ok (.bipush 40, 2) := by decide +kernel
theorem dX1_isVariable_7 : decode cX1_isVariable 7 = .ok (.if_icmp .ge 7, 3) := by decide +kernel
theorem dX1_isVariable_10 : decode cX1_isVariable 10 = .ok (.iconst 1, 1) := by decide +kernel
theorem dX1_isVariable_11 : decode cX1_isVariable 11 = .ok (.goto 4, 3) := by decide +kernel
theorem dX1_isVariable_14 : decode cX1_isVariable 14 = .ok (.iconst 0, 1) := by decide +kernel
theorem dX1_isVariable_15 : decode cX1_isVariable 15 = .ok (.ireturn, 1) := by decide +kernel
theorem dX1_begin_0 : decode cX1_begin 0 = .ok (.iload_n 1, 1) := by decide +kernel
theorem dX1_begin_1 : decode cX1_begin 1 = .ok (.iconst 1, 1) := by decide +kernel
theorem dX1_begin_2 : decode cX1_begin 2 = .ok (.if_icmp .lt 20, 3) := by decide +kernel
theorem dX1_begin_5 : decode cX1_begin 5 = .ok (.iload_n 1, 1) := by decide +kernel
theorem dX1_begin_6 : decode cX1_begin 6 = .ok (.bipush 12, 2) := by decide +kernel
theorem dX1_begin_8 : decode cX1_begin 8 = .ok (.if_icmp .gt 14, 3) := by decide +kernel
theorem dX1_begin_11 : decode cX1_begin 11 = .ok (.iload_n 2, 1) := by decide +kernel
theorem dX1_begin_12 : decode cX1_begin 12 = .ok (.iconst 1, 1) := by decide +kernel
theorem dX1_begin_13 : decode cX1_begin 13 = .ok (.if_icmp .lt 9, 3) := by decide +kernel
theorem dX1_begin_16 : decode cX1_begin 16 = .ok (.iload_n 2, 1) := by decide +kernel
theorem dX1_begin_17 : decode cX1_begin 17 = .ok (.bipush 12, 2) := by decide +kernel
theorem dX1_begin_19 : decode cX1_begin 19 = .ok (.if_icmp .le 5, 3) := by decide +kernel
theorem dX1_begin_22 : decode cX1_begin 22 = .ok (.iconst (-1), 1) := by decide +kernel
theorem dX1_begin_23 : decode cX1_begin 23 = .ok (.ireturn, 1) := by decide +kernel
theorem dX1_begin_24 : decode cX1_begin 24 = .ok (.aload_n 0, 1) := by decide +kernel
theorem dX1_begin_25 : decode cX1_begin 25 = .ok (.iload_n 1, 1) := by decide +kernel
theorem dX1_begin_26 : decode cX1_begin 26 = .ok (.putfield 36, 3) := by decide +kernel
theorem dX1_begin_29 : decode cX1_begin 29 = .ok (.aload_n 0, 1) := by decide +kernel
theorem dX1_begin_30 : decode cX1_begin 30 = .ok (.iload_n 2, 1) := by decide +kernel
theorem dX1_begin_31 : decode cX1_begin 31 = .ok (.putfield 40, 3) := by decide +kernel
theorem dX1_begin_34 : decode cX1_begin 34 = .ok (.iconst 0, 1) := by decide +kernel
