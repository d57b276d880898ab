theorem dX1_begin_35 : decode cX1_begin 35 = .ok (.istore_n 3, 1) := by decide +kernel
theorem dX1_begin_36 : decode cX1_begin 36 = .ok (.iload_n 3, 1) := by decide +kernel
theorem dX1_begin_37 : decode cX1_begin 37 = .ok (.sipush 144, 3) := by decide +kernel
theorem dX1_begin_40 : decode cX1_begin 40 = .ok (.if_icmp .ge 30, 3) := by decide +kernel
theorem dX1_begin_43 : decode cX1_begin 43 = .ok (.aload_n 0, 1) := by decide +kernel
theorem dX1_begin_44 : decode cX1_begin 44 = .ok (.getfield 7, 3) := by decide +kernel
theorem dX1_begin_47 : decode cX1_begin 47 = .ok (.iload_n 3, 1) := by decide +kernel
theorem dX1_begin_48 : decode cX1_begin 48 = .ok (.iconst 0, 1) := by decide +kernel
theorem dX1_begin_49 : decode cX1_begin 49 = .ok (.iastore, 1) := by decide +kernel
theorem dX1_begin_50 : decode cX1_begin 50 = .ok (.aload_n 0, 1) := by decide +kernel
theorem dX1_begin_51 : decode cX1_begin 51 = .ok (.getfield 13, 3) := by decide +kernel
theorem dX1_begin_54 : decode cX1_begin 54 = .ok (.iload_n 3, 1) := by decide +kernel
theorem dX1_begin_55 : decode cX1_begin 55 = .ok (.iconst 0, 1) := by decide +kernel
theorem dX1_begin_56 : decode cX1_begin 56 = .ok (.iastore, 1) := by decide +kernel
theorem dX1_begin_57 : decode cX1_begin 57 = .ok (.aload_n 0, 1) := by decide +kernel
theorem dX1_begin_58 : decode cX1_begin 58 = .ok (.getfield 16, 3) := by decide +kernel
theorem dX1_begin_61 : decode cX1_begin 61 = .ok (.iload_n 3, 1) := by decide +kernel
theorem dX1_begin_62 : decode cX1_begin 62 = .ok (.iconst 0, 1) := by decide +kernel
theorem dX1_begin_63 : decode cX1_begin 63 = .ok (.iastore, 1) := by decide +kernel
theorem dX1_begin_64 : decode cX1_begin 64 = .ok (.iinc 3 1, 3) := by decide +kernel
theorem dX1_begin_67 : decode cX1_begin 67 = .ok (.goto (-31), 3) := by decide +kernel
theorem dX1_begin_70 : decode cX1_begin 70 = .ok (.iconst 0, 1) := by decide +kernel
theorem dX1_begin_71 : decode cX1_begin 71 = .ok (.istore_n 3, 1) := by decide +kernel
theorem dX1_begin_72 : decode cX1_begin 72 = .ok (.iload_n 3, 1) := by decide +kernel
theorem dX1_begin_73 : decode cX1_begin 73 = .ok (.sipush 156, 3) := by decide +kernel
theorem dX1_begin_76 : decode cX1_begin 76 = .ok (.if_icmp .ge 16, 3) := by decide +kernel
theorem dX1_begin_79 : decode cX1_begin 79 = .ok (.aload_n 0, 1) := by decide +kernel
theorem dX1_begin_80 : decode cX1_begin 80 = .ok (.getfield 19, 3) := by decide +kernel
theorem dX1_begin_83 : decode cX1_begin 83 = .ok (.iload_n 3, 1) := by decide +kernel
theorem dX1_begin_84 : decode cX1_begin 84 = .ok (.iconst 0, 1) := by decide +kernel
theorem dX1_begin_85 : decode cX1_begin 85 = .ok (.bastore, 1) := by decide +kernel
theorem dX1_begin_86 : decode cX1_begin 86 = .ok (.iinc 3 1, 3) := by decide +kernel
theorem dX1_begin_89 : decode cX1_begin 89 = .ok (.goto (-17), 3) := by decide +kernel
theorem dX1_begin_92 : decode cX1_begin 92 = .ok (.aload_n 0, 1) := by decide +kernel
theorem dX1_begin_93 : decode cX1_begin 93 = .ok (.iconst 0, 1) := by decide +kernel
theorem dX1_begin_94 : decode cX1_begin 94 = .ok (.putfield 43, 3) := by decide +kernel
theorem dX1_begin_97 : decode cX1_begin 97 = .ok (.iconst 0, 1) := by decide +kernel
theorem dX1_begin_98 : decode cX1_begin 98 = .ok (.ireturn, 1) := by decide +kernel
set_option maxRecDepth 20000 in
theorem ggX1_cell_X1_isCell : GoodIn wsX1_cell wsX1_isCell := goodIn_r _ [10, 11, 1, 15, 16, 17, 18, 19, 20, 21, 22, 23, 24] (by decide +kernel) (by decide +kernel)
set_option maxRecDepth 20000 in
theorem gX1_cell_X1_isCell : GoodIn wsX1_cell (wsV RX1 47 RX1 yX1_isCell wsX1_isCell) := goodIn_app (goodIn_of _ (by decide +kernel)) ggX1_cell_X1_isCell
set_option maxRecDepth 20000 in
theorem ggX1_cell_X1_isVariable : GoodIn wsX1_cell wsX1_isVariable := goodIn_r _ [14] (by decide +kernel) (by decide +kernel)
set_option maxRecDepth 20000 in
theorem gX1_cell_X1_isVariable : GoodIn wsX1_cell (va_wsS RX1 51 yX1_isVariable wsX1_isVariable) := goodIn_app (goodIn_of _ (by decide +kernel)) ggX1_cell_X1_isVariable
theorem dX1_cell_0 : decode cX1_cell 0 = .ok (.aload_n 0, 1) := by decide +kernel
theorem dX1_cell_1 : decode cX1_cell 1 = .ok (.iload_n 1, 1) := by decide +kernel
theorem dX1_cell_2 : decode cX1_cell 2 = .ok (.iload_n 2, 1) := by decide +kernel
theorem dX1_cell_3 : decode cX1_cell 3 = .ok (.invokevirtual 47, 3) := by decide +kernel
theorem dX1_cell_6 : decode cX1_cell 6 = .ok (.ifCond .eq 42, 3) := by decide +kernel
theorem dX1_cell_9 : decode cX1_cell 9 = .ok (.iload_n 3, 1) := by decide +kernel
theorem dX1_cell_10 : decode cX1_cell 10 = .ok (.ifCond .lt 38, 3) := by decide +kernel
theorem dX1_cell_13 : decode cX1_cell 13 = .ok (.iload_n 3, 1) := by decide +kernel
theorem dX1_cell_14 : decode cX1_cell 14 = .ok (.bipush 9, 2) := by decide +kernel
theorem dX1_cell_16 : decode cX1_cell 16 = .ok (.if_icmp .gt 32, 3) := by decide +kernel
theorem dX1_cell_19 : decode cX1_cell 19 = .ok (.iload_n 3, 1) := by decide +kernel
theorem dX1_cell_20 : decode cX1_cell 20 = .ok (.iconst 1, 1) := by decide +kernel
theorem dX1_cell_21 : decode cX1_cell 21 = .ok (.if_icmp .le 11, 3) := by decide +kernel
theorem dX1_cell_24 : decode cX1_cell 24 = .ok (.iload 4, 2) := by decide +kernel
theorem dX1_cell_26 : decode cX1_cell 26 = .ok (.invokestatic 51, 3) := by decide +kernel
theorem dX1_cell_29 : decode cX1_cell 29 = .ok (.ifCond .eq 19, 3) := by decide +kernel
theorem dX1_cell_32 : decode cX1_cell 32 = .ok (.iload_n 3, 1) := by decide +kernel
theorem dX1_cell_33 : decode cX1_cell 33 = .ok (.bipush 6, 2) := by decide +kernel
theorem dX1_cell_35 : decode cX1_cell 35 = .ok (.if_icmp .lt 15, 3) := by decide +kernel
theorem dX1_cell_38 : decode cX1_cell 38 = .ok (.iload_n 2, 1) := by decide +kernel
theorem dX1_cell_39 : decode cX1_cell 39 = .ok (.aload_n 0, 1) := by decide +kernel
theorem dX1_cell_40 : decode cX1_cell 40 = .ok (.getfield 40, 3) := by decide +kernel
theorem dX1_cell_43 : decode cX1_cell 43 = .ok (.iconst 1, 1) := by decide +kernel
theorem dX1_cell_44 : decode cX1_cell 44 = .ok (.isub, 1) := by decide +kernel
theorem dX1_cell_45 : decode cX1_cell 45 = .ok (.if_icmp .eq 5, 3) := by decide +kernel
theorem dX1_cell_48 : decode cX1_cell 48 = .ok (.iconst (-1), 1) := by decide +kernel
theorem dX1_cell_49 : decode cX1_cell 49 = .ok (.ireturn, 1) := by decide +kernel
theorem dX1_cell_50 : decode cX1_cell 50 = .ok (.bipush 12, 2) := by decide +kernel
theorem dX1_cell_52 : decode cX1_cell 52 = .ok (.iload_n 1, 1) := by decide +kernel
theorem dX1_cell_53 : decode cX1_cell 53 = .ok (.imul, 1) := by decide +kernel
theorem dX1_cell_54 : decode cX1_cell 54 = .ok (.iload_n 2, 1) := by decide +kernel
theorem dX1_cell_55 : decode cX1_cell 55 = .ok (.iadd, 1) := by decide +kernel
theorem dX1_cell_56 : decode cX1_cell 56 = .ok (.istore 5, 2) := by decide +kernel
theorem dX1_cell_58 : decode cX1_cell 58 = .ok (.aload_n 0, 1) := by decide +kernel
theorem dX1_cell_59 : decode cX1_cell 59 = .ok (.getfield 7, 3) := by decide +kernel
theorem dX1_cell_62 : decode cX1_cell 62 = .ok (.iload 5, 2) := by decide +kernel
theorem dX1_cell_64 : decode cX1_cell 64 = .ok (.iaload, 1) := by decide +kernel
theorem dX1_cell_65 : decode cX1_cell 65 = .ok (.istore 6, 2) := by decide +kernel
theorem dX1_cell_67 : decode cX1_cell 67 = .ok (.aload_n 0, 1) := by decide +kernel
theorem dX1_cell_68 : decode cX1_cell 68 = .ok (.getfield 7, 3) := by decide +kernel
theorem dX1_cell_71 : decode cX1_cell 71 = .ok (.iload 5, 2) := by decide +kernel
theorem dX1_cell_73 : decode cX1_cell 73 = .ok (.iload_n 3, 1) := by decide +kernel
theorem dX1_cell_74 : decode cX1_cell 74 = .ok (.iastore, 1) := by decide +kernel
theorem dX1_cell_75 : decode cX1_cell 75 = .ok (.aload_n 0, 1) := by decide +kernel
theorem dX1_cell_76 : decode cX1_cell 76 = .ok (.getfield 13, 3) := by decide +kernel
theorem dX1_cell_79 : decode cX1_cell 79 = .ok (.iload 5, 2) := by decide +kernel
theorem dX1_cell_81 : decode cX1_cell 81 = .ok (.iload_n 3, 1) := by decide +kernel
theorem dX1_cell_82 : decode cX1_cell 82 = .ok (.iconst 1, 1) := by decide +kernel
theorem dX1_cell_83 : decode cX1_cell 83 = .ok (.if_icmp .le 8, 3) := by decide +kernel
theorem dX1_cell_86 : decode cX1_cell 86 = .ok (.iload 4, 2) := by decide +kernel
theorem dX1_cell_88 : decode cX1_cell 88 = .ok (.goto 4, 3) := by decide +kernel
theorem dX1_cell_91 : decode cX1_cell 91 = .ok (.iconst 0, 1) := by decide +kernel
theorem dX1_cell_92 : decode cX1_cell 92 = .ok (.iastore, 1) := by decide +kernel
theorem dX1_cell_93 : decode cX1_cell 93 = .ok (.aload_n 0, 1) := by decide +kernel
theorem dX1_cell_94 : decode cX1_cell 94 = .ok (.getfield 16, 3) := by decide +kernel
theorem dX1_cell_97 : decode cX1_cell 97 = .ok (.iload 5, 2) := by decide +kernel
theorem dX1_cell_99 : decode cX1_cell 99 = .ok (.iconst 0, 1) := by decide +kernel
theorem dX1_cell_100 : decode cX1_cell 100 = .ok (.iastore, 1) := by decide +kernel
theorem dX1_cell_101 : decode cX1_cell 101 = .ok (.aload_n 0, 1) := by decide +kernel
theorem dX1_cell_102 : decode cX1_cell 102 = .ok (.iconst 0, 1) := by decide +kernel
theorem dX1_cell_103 : decode cX1_cell 103 = .ok (.putfield 43, 3) := by decide +kernel
theorem dX1_cell_106 : decode cX1_cell 106 = .ok (.iload 6, 2) := by decide +kernel
theorem dX1_cell_108 : decode cX1_cell 108 = .ok (.ireturn, 1) := by decide +kernel
theorem dX1_link_0 : decode cX1_link 0 = .ok (.iload_n 1, 1) := by decide +kernel
theorem dX1_link_1 : decode cX1_link 1 = .ok (.ifCond .lt 26, 3) := by decide +kernel
theorem dX1_link_4 : decode cX1_link 4 = .ok (.iload_n 1, 1) := by decide +kernel
theorem dX1_link_5 : decode cX1_link 5 = .ok (.aload_n 0, 1) := by decide +kernel
theorem dX1_link_6 : decode cX1_link 6 = .ok (.getfield 36, 3) := by decide +kernel
theorem dX1_link_9 : decode cX1_link 9 = .ok (.iconst 1, 1) := by decide +kernel
theorem dX1_link_10 : decode cX1_link 10 = .ok (.isub, 1) := by decide +kernel
theorem dX1_link_11 : decode cX1_link 11 = .ok (.if_icmp .ge 16, 3) := by decide +kernel
theorem dX1_link_14 : decode cX1_link 14 = .ok (.iload_n 2, 1) := by decide +kernel
theorem dX1_link_15 : decode cX1_link 15 = .ok (.iconst 1, 1) := by decide +kernel
theorem dX1_link_16 : decode cX1_link 16 = .ok (.if_icmp .lt 11, 3) := by decide +kernel
theorem dX1_link_19 : decode cX1_link 19 = .ok (.iload_n 2, 1) := by decide +kernel
theorem dX1_link_20 : decode cX1_link 20 = .ok (.aload_n 0, 1) := by decide +kernel
theorem dX1_link_21 : decode cX1_link 21 = .ok (.getfield 40, 3) := by decide +kernel
theorem dX1_link_24 : decode cX1_link 24 = .ok (.if_icmp .lt 5, 3) := by decide +kernel
theorem dX1_link_27 : decode cX1_link 27 = .ok (.iconst (-1), 1) := by decide +kernel
theorem dX1_link_28 : decode cX1_link 28 = .ok (.ireturn, 1) := by decide +kernel
theorem dX1_link_29 : decode cX1_link 29 = .ok (.bipush 13, 2) := by decide +kernel
theorem dX1_link_31 : decode cX1_link 31 = .ok (.iload_n 1, 1) := by decide +kernel
theorem dX1_link_32 : decode cX1_link 32 = .ok (.imul, 1) := by decide +kernel
theorem dX1_link_33 : decode cX1_link 33 = .ok (.iload_n 2, 1) := by decide +kernel
theorem dX1_link_34 : decode cX1_link 34 = .ok (.iadd, 1) := by decide +kernel
theorem dX1_link_35 : decode cX1_link 35 = .ok (.istore 4, 2) := by decide +kernel
theorem dX1_link_37 : decode cX1_link 37 = .ok (.aload_n 0, 1) := by decide +kernel
theorem dX1_link_38 : decode cX1_link 38 = .ok (.getfield 19, 3) := by decide +kernel
theorem dX1_link_41 : decode cX1_link 41 = .ok (.iload 4, 2) := by decide +kernel
theorem dX1_link_43 : decode cX1_link 43 = .ok (.baload, 1) := by decide +kernel
theorem dX1_link_44 : decode cX1_link 44 = .ok (.istore 5, 2) := by decide +kernel
theorem dX1_link_46 : decode cX1_link 46 = .ok (.aload_n 0, 1) := by decide +kernel
theorem dX1_link_47 : decode cX1_link 47 = .ok (.getfield 19, 3) := by decide +kernel
theorem dX1_link_50 : decode cX1_link 50 = .ok (.iload 4, 2) := by decide +kernel
theorem dX1_link_52 : decode cX1_link 52 = .ok (.iload_n 3, 1) := by decide +kernel
theorem dX1_link_53 : decode cX1_link 53 = .ok (.bastore, 1) := by decide +kernel
theorem dX1_link_54 : decode cX1_link 54 = .ok (.aload_n 0, 1) := by decide +kernel
theorem dX1_link_55 : decode cX1_link 55 = .ok (.iconst 0, 1) := by decide +kernel
theorem dX1_link_56 : decode cX1_link 56 = .ok (.putfield 43, 3) := by decide +kernel
theorem dX1_link_59 : decode cX1_link 59 = .ok (.iload 5, 2) := by decide +kernel
theorem dX1_link_61 : decode cX1_link 61 = .ok (.ifCond .eq 7, 3) := by decide +kernel
theorem dX1_link_64 : decode cX1_link 64 = .ok (.iconst 1, 1) := by decide +kernel
theorem dX1_link_65 : decode cX1_link 65 = .ok (.goto 4, 3) := by decide +kernel
theorem dX1_link_68 : decode cX1_link 68 = .ok (.iconst 0, 1) := by decide +kernel
theorem dX1_link_69 : decode cX1_link 69 = .ok (.ireturn, 1) := by decide +kernel
set_option maxRecDepth 20000 in
theorem ggX1_set_X1_isVariable : GoodIn wsX1_set wsX1_isVariable := goodIn_r _ [5] (by decide +kernel) (by decide +kernel)
set_option maxRecDepth 20000 in
theorem gX1_set_X1_isVariable : GoodIn wsX1_set (va_wsS RX1 51 yX1_isVariable wsX1_isVariable) := goodIn_app (goodIn_of _ (by decide +kernel)) ggX1_set_X1_isVariable
theorem dX1_set_0 : decode cX1_set 0 = .ok (.iload_n 1, 1) := by decide +kernel
theorem dX1_set_1 : decode cX1_set 1 = .ok (.invokestatic 51, 3) := by decide +kernel
theorem dX1_set_4 : decode cX1_set 4 = .ok (.ifCond .eq 12, 3) := by decide +kernel
theorem dX1_set_7 : decode cX1_set 7 = .ok (.iload_n 2, 1) := by decide +kernel
theorem dX1_set_8 : decode cX1_set 8 = .ok (.ifCond .lt 8, 3) := by decide +kernel
theorem dX1_set_11 : decode cX1_set 11 = .ok (.iload_n 2, 1) := by decide +kernel
theorem dX1_set_12 : decode cX1_set 12 = .ok (.iconst 1, 1) := by decide +kernel
theorem dX1_set_13 : decode cX1_set 13 = .ok (.if_icmp .le 5, 3) := by decide +kernel
theorem dX1_set_16 : decode cX1_set 16 = .ok (.iconst (-1), 1) := by decide +kernel
theorem dX1_set_17 : decode cX1_set 17 = .ok (.ireturn, 1) := by decide +kernel
theorem dX1_set_18 : decode cX1_set 18 = .ok (.aload_n 0, 1) := by decide +kernel
theorem dX1_set_19 : decode cX1_set 19 = .ok (.getfield 23, 3) := by decide +kernel
theorem dX1_set_22 : decode cX1_set 22 = .ok (.iload_n 1, 1) := by decide +kernel
theorem dX1_set_23 : decode cX1_set 23 = .ok (.iaload, 1) := by decide +kernel
theorem dX1_set_24 : decode cX1_set 24 = .ok (.istore_n 3, 1) := by decide +kernel
theorem dX1_set_25 : decode cX1_set 25 = .ok (.aload_n 0, 1) := by decide +kernel
theorem dX1_set_26 : decode cX1_set 26 = .ok (.getfield 23, 3) := by decide +kernel
theorem dX1_set_29 : decode cX1_set 29 = .ok (.iload_n 1, 1) := by decide +kernel
theorem dX1_set_30 : decode cX1_set 30 = .ok (.iload_n 2, 1) := by decide +kernel
theorem dX1_set_31 : decode cX1_set 31 = .ok (.iastore, 1) := by decide +kernel
theorem dX1_set_32 : decode cX1_set 32 = .ok (.iload_n 3, 1) := by decide +kernel
theorem dX1_set_33 : decode cX1_set 33 = .ok (.ireturn, 1) := by decide +kernel
set_option maxRecDepth 20000 in
theorem ggX1_get_X1_isVariable : GoodIn wsX1_get wsX1_isVariable := goodIn_r _ [5] (by decide +kernel) (by decide +kernel)
set_option maxRecDepth 20000 in
theorem gX1_get_X1_isVariable : GoodIn wsX1_get (va_wsS RX1 51 yX1_isVariable wsX1_isVariable) := goodIn_app (goodIn_of _ (by decide +kernel)) ggX1_get_X1_isVariable
theorem dX1_get_0 : decode cX1_get 0 = .ok (.iload_n 1, 1) := by decide +kernel
theorem dX1_get_1 : decode cX1_get 1 = .ok (.invokestatic 51, 3) := by decide +kernel
theorem dX1_get_4 : decode cX1_get 4 = .ok (.ifCond .eq 12, 3) := by decide +kernel
theorem dX1_get_7 : decode cX1_get 7 = .ok (.aload_n 0, 1) := by decide +kernel
theorem dX1_get_8 : decode cX1_get 8 = .ok (.getfield 23, 3) := by decide +kernel
theorem dX1_get_11 : decode cX1_get 11 = .ok (.iload_n 1, 1) := by decide +kernel
theorem dX1_get_12 : decode cX1_get 12 = .ok (.iaload, 1) := by decide +kernel
theorem dX1_get_13 : decode cX1_get 13 = .ok (.goto 4, 3) := by decide +kernel
theorem dX1_get_16 : decode cX1_get 16 = .ok (.iconst (-1), 1) := by decide +kernel
theorem dX1_get_17 : decode cX1_get 17 = .ok (.ireturn, 1) := by decide +kernel
theorem dX1_lets_0 : decode cX1_lets 0 = .ok (.aload_n 0, 1) := by decide +kernel
theorem dX1_lets_1 : decode cX1_lets 1 = .ok (.getfield 26, 3) := by decide +kernel
theorem dX1_lets_4 : decode cX1_lets 4 = .ok (.aload_n 0, 1) := by decide +kernel
theorem dX1_lets_5 : decode cX1_lets 5 = .ok (.getfield 13, 3) := by decide +kernel
theorem dX1_lets_8 : decode cX1_lets 8 = .ok (.iload_n 1, 1) := by decide +kernel
theorem dX1_lets_9 : decode cX1_lets 9 = .ok (.iaload, 1) := by decide +kernel
theorem dX1_lets_10 : decode cX1_lets 10 = .ok (.iaload, 1) := by decide +kernel
theorem dX1_lets_11 : decode cX1_lets 11 = .ok (.istore_n 2, 1) := by decide +kernel
theorem dX1_lets_12 : decode cX1_lets 12 = .ok (.aload_n 0, 1) := by decide +kernel
theorem dX1_lets_13 : decode cX1_lets 13 = .ok (.getfield 7, 3) := by decide +kernel
theorem dX1_lets_16 : decode cX1_lets 16 = .ok (.iload_n 1, 1) := by decide +kernel
theorem dX1_lets_17 : decode cX1_lets 17 = .ok (.iaload, 1) := by decide +kernel
theorem dX1_lets_18 : decode cX1_lets 18 = .ok (.tableswitch 97 1 5 #[34, 36, 47, 57, 77], 34) := by decide +kernel
theorem dX1_lets_52 : decode cX1_lets 52 = .ok (.iconst 1, 1) := by decide +kernel
theorem dX1_lets_53 : decode cX1_lets 53 = .ok (.ireturn, 1) := by decide +kernel
theorem dX1_lets_54 : decode cX1_lets 54 = .ok (.iload_n 2, 1) := by decide +kernel
theorem dX1_lets_55 : decode cX1_lets 55 = .ok (.iconst 1, 1) := by decide +kernel
theorem dX1_lets_56 : decode cX1_lets 56 = .ok (.if_icmp .ne 7, 3) := by decide +kernel
theorem dX1_lets_59 : decode cX1_lets 59 = .ok (.iconst 1, 1) := by decide +kernel
theorem dX1_lets_60 : decode cX1_lets 60 = .ok (.goto 4, 3) := by decide +kernel
theorem dX1_lets_63 : decode cX1_lets 63 = .ok (.iconst 0, 1) := by decide +kernel
theorem dX1_lets_64 : decode cX1_lets 64 = .ok (.ireturn, 1) := by decide +kernel
theorem dX1_lets_65 : decode cX1_lets 65 = .ok (.iload_n 2, 1) := by decide +kernel
theorem dX1_lets_66 : decode cX1_lets 66 = .ok (.ifCond .ne 7, 3) := by decide +kernel
theorem dX1_lets_69 : decode cX1_lets 69 = .ok (.iconst 1, 1) := by decide +kernel
theorem dX1_lets_70 : decode cX1_lets 70 = .ok (.goto 4, 3) := by decide +kernel
theorem dX1_lets_73 : decode cX1_lets 73 = .ok (.iconst 0, 1) := by decide +kernel
theorem dX1_lets_74 : decode cX1_lets 74 = .ok (.ireturn, 1) := by decide +kernel
theorem dX1_lets_75 : decode cX1_lets 75 = .ok (.iload_n 2, 1) := by decide +kernel
theorem dX1_lets_76 : decode cX1_lets 76 = .ok (.iconst 1, 1) := by decide +kernel
theorem dX1_lets_77 : decode cX1_lets 77 = .ok (.if_icmp .ne 16, 3) := by decide +kernel
theorem dX1_lets_80 : decode cX1_lets 80 = .ok (.aload_n 0, 1) := by decide +kernel
theorem dX1_lets_81 : decode cX1_lets 81 = .ok (.getfield 16, 3) := by decide +kernel
theorem dX1_lets_84 : decode cX1_lets 84 = .ok (.iload_n 1, 1) := by decide +kernel
theorem dX1_lets_85 : decode cX1_lets 85 = .ok (.iaload, 1) := by decide +kernel
theorem dX1_lets_86 : decode cX1_lets 86 = .ok (.ifCond .ne 7, 3) := by decide +kernel
theorem dX1_lets_89 : decode cX1_lets 89 = .ok (.iconst 1, 1) := by decide +kernel
theorem dX1_lets_90 : decode cX1_lets 90 = .ok (.goto 4, 3) := by decide +kernel
theorem dX1_lets_93 : decode cX1_lets 93 = .ok (.iconst 0, 1) := by decide +kernel
theorem dX1_lets_94 : decode cX1_lets 94 = .ok (.ireturn, 1) := by decide +kernel
theorem dX1_lets_95 : decode cX1_lets 95 = .ok (.iload_n 2, 1) := by decide +kernel
theorem dX1_lets_96 : decode cX1_lets 96 = .ok (.ifCond .ne 17, 3) := by decide +kernel
theorem dX1_lets_99 : decode cX1_lets 99 = .ok (.aload_n 0, 1) := by decide +kernel
theorem dX1_lets_100 : decode cX1_lets 100 = .ok (.getfield 16, 3) := by decide +kernel
theorem dX1_lets_103 : decode cX1_lets 103 = .ok (.iload_n 1, 1) := by decide +kernel
theorem dX1_lets_104 : decode cX1_lets 104 = .ok (.iaload, 1) := by decide +kernel
theorem dX1_lets_105 : decode cX1_lets 105 = .ok (.iconst 1, 1) := by decide +kernel
theorem dX1_lets_106 : decode cX1_lets 106 = .ok (.if_icmp .ne 7, 3) := by decide +kernel
theorem dX1_lets_109 : decode cX1_lets 109 = .ok (.iconst 1, 1) := by decide +kernel
theorem dX1_lets_110 : decode cX1_lets 110 = .ok (.goto 4, 3) := by decide +kernel
theorem dX1_lets_113 : decode cX1_lets 113 = .ok (.iconst 0, 1) := by decide +kernel
theorem dX1_lets_114 : decode cX1_lets 114 = .ok (.ireturn, 1) := by decide +kernel
theorem dX1_lets_115 : decode cX1_lets 115 = .ok (.iconst 0, 1) := by decide +kernel
theorem dX1_lets_116 : decode cX1_lets 116 = .ok (.ireturn, 1) := by decide +kernel
theorem dX1_spread_0 : decode cX1_spread 0 = .ok (.iconst 0, 1) := by decide +kernel
theorem dX1_spread_1 : decode cX1_spread 1 = .ok (.istore_n 2, 1) := by decide +kernel
theorem dX1_spread_2 : decode cX1_spread 2 = .ok (.iload_n 2, 1) := by decide +kernel
theorem dX1_spread_3 : decode cX1_spread 3 = .ok (.iconst 1, 1) := by decide +kernel
theorem dX1_spread_4 : decode cX1_spread 4 = .ok (.iadd, 1) := by decide +kernel
theorem dX1_spread_5 : decode cX1_spread 5 = .ok (.aload_n 0, 1) := by decide +kernel
theorem dX1_spread_6 : decode cX1_spread 6 = .ok (.getfield 36, 3) := by decide +kernel
theorem dX1_spread_9 : decode cX1_spread 9 = .ok (.if_icmp .ge 52, 3) := by decide +kernel
theorem dX1_spread_12 : decode cX1_spread 12 = .ok (.aload_n 0, 1) := by decide +kernel
theorem dX1_spread_13 : decode cX1_spread 13 = .ok (.getfield 19, 3) := by decide +kernel
theorem dX1_spread_16 : decode cX1_spread 16 = .ok (.bipush 13, 2) := by decide +kernel
theorem dX1_spread_18 : decode cX1_spread 18 = .ok (.iload_n 2, 1) := by decide +kernel
theorem dX1_spread_19 : decode cX1_spread 19 = .ok (.imul, 1) := by decide +kernel
theorem dX1_spread_20 : decode cX1_spread 20 = .ok (.iload_n 1, 1) := by decide +kernel
theorem dX1_spread_21 : decode cX1_spread 21 = .ok (.iadd, 1) := by decide +kernel
theorem dX1_spread_22 : decode cX1_spread 22 = .ok (.baload, 1) := by decide +kernel
theorem dX1_spread_23 : decode cX1_spread 23 = .ok (.ifCond .eq 32, 3) := by decide +kernel
theorem dX1_spread_26 : decode cX1_spread 26 = .ok (.aload_n 0, 1) := by decide +kernel
theorem dX1_spread_27 : decode cX1_spread 27 = .ok (.getfield 29, 3) := by decide +kernel
theorem dX1_spread_30 : decode cX1_spread 30 = .ok (.bipush 13, 2) := by decide +kernel
theorem dX1_spread_32 : decode cX1_spread 32 = .ok (.iload_n 2, 1) := by decide +kernel
theorem dX1_spread_33 : decode cX1_spread 33 = .ok (.imul, 1) := by decide +kernel
theorem dX1_spread_34 : decode cX1_spread 34 = .ok (.iload_n 1, 1) := by decide +kernel
theorem dX1_spread_35 : decode cX1_spread 35 = .ok (.iadd, 1) := by decide +kernel
theorem dX1_spread_36 : decode cX1_spread 36 = .ok (.baload, 1) := by decide +kernel
theorem dX1_spread_37 : decode cX1_spread 37 = .ok (.ifCond .eq 18, 3) := by decide +kernel
theorem dX1_spread_40 : decode cX1_spread 40 = .ok (.aload_n 0, 1) := by decide +kernel
theorem dX1_spread_41 : decode cX1_spread 41 = .ok (.getfield 29, 3) := by decide +kernel
theorem dX1_spread_44 : decode cX1_spread 44 = .ok (.bipush 13, 2) := by decide +kernel
theorem dX1_spread_46 : decode cX1_spread 46 = .ok (.iload_n 2, 1) := by decide +kernel
theorem dX1_spread_47 : decode cX1_spread 47 = .ok (.imul, 1) := by decide +kernel
theorem dX1_spread_48 : decode cX1_spread 48 = .ok (.bipush 13, 2) := by decide +kernel
theorem dX1_spread_50 : decode cX1_spread 50 = .ok (.iadd, 1) := by decide +kernel
theorem dX1_spread_51 : decode cX1_spread 51 = .ok (.iload_n 1, 1) := by decide +kernel
theorem dX1_spread_52 : decode cX1_spread 52 = .ok (.iadd, 1) := by decide +kernel
theorem dX1_spread_53 : decode cX1_spread 53 = .ok (.iconst 1, 1) := by decide +kernel
theorem dX1_spread_54 : decode cX1_spread 54 = .ok (.bastore, 1) := by decide +kernel
theorem dX1_spread_55 : decode cX1_spread 55 = .ok (.iinc 2 1, 3) := by decide +kernel
theorem dX1_spread_58 : decode cX1_spread 58 = .ok (.goto (-56), 3) := by decide +kernel
theorem dX1_spread_61 : decode cX1_spread 61 = .ok (.aload_n 0, 1) := by decide +kernel
theorem dX1_spread_62 : decode cX1_spread 62 = .ok (.getfield 36, 3) := by decide +kernel
theorem dX1_spread_65 : decode cX1_spread 65 = .ok (.iconst 2, 1) := by decide +kernel
theorem dX1_spread_66 : decode cX1_spread 66 = .ok (.isub, 1) := by decide +kernel
theorem dX1_spread_67 : decode cX1_spread 67 = .ok (.istore_n 2, 1) := by decide +kernel
theorem dX1_spread_68 : decode cX1_spread 68 = .ok (.iload_n 2, 1) := by decide +kernel
theorem dX1_spread_69 : decode cX1_spread 69 = .ok (.ifCond .lt 52, 3) := by decide +kernel
theorem dX1_spread_72 : decode cX1_spread 72 = .ok (.aload_n 0, 1) := by decide +kernel
theorem dX1_spread_73 : decode cX1_spread 73 = .ok (.getfield 19, 3) := by decide +kernel
theorem dX1_spread_76 : decode cX1_spread 76 = .ok (.bipush 13, 2) := by decide +kernel
theorem dX1_spread_78 : decode cX1_spread 78 = .ok (.iload_n 2, 1) := by decide +kernel
theorem dX1_spread_79 : decode cX1_spread 79 = .ok (.imul, 1) := by decide +kernel
theorem dX1_spread_80 : decode cX1_spread 80 = .ok (.iload_n 1, 1) := by decide +kernel
theorem dX1_spread_81 : decode cX1_spread 81 = .ok (.iadd, 1) := by decide +kernel
theorem dX1_spread_82 : decode cX1_spread 82 = .ok (.baload, 1) := by decide +kernel
theorem dX1_spread_83 : decode cX1_spread 83 = .ok (.ifCond .eq 32, 3) := by decide +kernel
theorem dX1_spread_86 : decode cX1_spread 86 = .ok (.aload_n 0, 1) := by decide +kernel
theorem dX1_spread_87 : decode cX1_spread 87 = .ok (.getfield 29, 3) := by decide +kernel
theorem dX1_spread_90 : decode cX1_spread 90 = .ok (.bipush 13, 2) := by decide +kernel
theorem dX1_spread_92 : decode cX1_spread 92 = .ok (.iload_n 2, 1) := by decide +kernel
theorem dX1_spread_93 : decode cX1_spread 93 = .ok (.imul, 1) := by decide +kernel
theorem dX1_spread_94 : decode cX1_spread 94 = .ok (.bipush 13, 2) := by decide +kernel
theorem dX1_spread_96 : decode cX1_spread 96 = .ok (.iadd, 1) := by decide +kernel
theorem dX1_spread_97 : decode cX1_spread 97 = .ok (.iload_n 1, 1) := by decide +kernel
theorem dX1_spread_98 : decode cX1_spread 98 = .ok (.iadd, 1) := by decide +kernel
theorem dX1_spread_99 : decode cX1_spread 99 = .ok (.baload, 1) := by decide +kernel
theorem dX1_spread_100 : decode cX1_spread 100 = .ok (.ifCond .eq 15, 3) := by decide +kernel
theorem dX1_spread_103 : decode cX1_spread 103 = .ok (.aload_n 0, 1) := by decide +kernel
theorem dX1_spread_104 : decode cX1_spread 104 = .ok (.getfield 29, 3) := by decide +kernel
theorem dX1_spread_107 : decode cX1_spread 107 = .ok (.bipush 13, 2) := by decide +kernel
theorem dX1_spread_109 : decode cX1_spread 109 = .ok (.iload_n 2, 1) := by decide +kernel
theorem dX1_spread_110 : decode cX1_spread 110 = .ok (.imul, 1) := by decide +kernel
theorem dX1_spread_111 : decode cX1_spread 111 = .ok (.iload_n 1, 1) := by decide +kernel
theorem dX1_spread_112 : decode cX1_spread 112 = .ok (.iadd, 1) := by decide +kernel
theorem dX1_spread_113 : decode cX1_spread 113 = .ok (.iconst 1, 1) := by decide +kernel
theorem dX1_spread_114 : decode cX1_spread 114 = .ok (.bastore, 1) := by decide +kernel
theorem dX1_spread_115 : decode cX1_spread 115 = .ok (.iinc 2 (-1), 3) := by decide +kernel
theorem dX1_spread_118 : decode cX1_spread 118 = .ok (.goto (-50), 3) := by decide +kernel
theorem dX1_spread_121 : decode cX1_spread 121 = .ok (.return_, 1) := by decide +kernel
theorem dX1_coils_0 : decode cX1_coils 0 = .ok (.iconst 0, 1) := by decide +kernel
theorem dX1_coils_1 : decode cX1_coils 1 = .ok (.istore_n 1, 1) := by decide +kernel
theorem dX1_coils_2 : decode cX1_coils 2 = .ok (.iconst 0, 1) := by decide +kernel
theorem dX1_coils_3 : decode cX1_coils 3 = .ok (.istore_n 2, 1) := by decide +kernel
theorem dX1_coils_4 : decode cX1_coils 4 = .ok (.iload_n 2, 1) := by decide +kernel
theorem dX1_coils_5 : decode cX1_coils 5 = .ok (.aload_n 0, 1) := by decide +kernel
theorem dX1_coils_6 : decode cX1_coils 6 = .ok (.getfield 36, 3) := by decide +kernel
theorem dX1_coils_9 : decode cX1_coils 9 = .ok (.if_icmp .ge 152, 3) := by decide +kernel
theorem dX1_coils_12 : decode cX1_coils 12 = .ok (.bipush 12, 2) := by decide +kernel
theorem dX1_coils_14 : decode cX1_coils 14 = .ok (.iload_n 2, 1) := by decide +kernel
theorem dX1_coils_15 : decode cX1_coils 15 = .ok (.imul, 1) := by decide +kernel
theorem dX1_coils_16 : decode cX1_coils 16 = .ok (.aload_n 0, 1) := by decide +kernel
theorem dX1_coils_17 : decode cX1_coils 17 = .ok (.getfield 40, 3) := by decide +kernel
theorem dX1_coils_20 : decode cX1_coils 20 = .ok (.iadd, 1) := by decide +kernel
theorem dX1_coils_21 : decode cX1_coils 21 = .ok (.iconst 1, 1) := by decide +kernel
theorem dX1_coils_22 : decode cX1_coils 22 = .ok (.isub, 1) := by decide +kernel
theorem dX1_coils_23 : decode cX1_coils 23 = .ok (.istore_n 3, 1) := by decide +kernel
theorem dX1_coils_24 : decode cX1_coils 24 = .ok (.aload_n 0, 1) := by decide +kernel
theorem dX1_coils_25 : decode cX1_coils 25 = .ok (.getfield 29, 3) := by decide +kernel
theorem dX1_coils_28 : decode cX1_coils 28 = .ok (.bipush 13, 2) := by decide +kernel
theorem dX1_coils_30 : decode cX1_coils 30 = .ok (.iload_n 2, 1) := by decide +kernel
theorem dX1_coils_31 : decode cX1_coils 31 = .ok (.imul, 1) := by decide +kernel
theorem dX1_coils_32 : decode cX1_coils 32 = .ok (.aload_n 0, 1) := by decide +kernel
theorem dX1_coils_33 : decode cX1_coils 33 = .ok (.getfield 40, 3) := by decide +kernel
theorem dX1_coils_36 : decode cX1_coils 36 = .ok (.iadd, 1) := by decide +kernel
theorem dX1_coils_37 : decode cX1_coils 37 = .ok (.iconst 1, 1) := by decide +kernel
theorem dX1_coils_38 : decode cX1_coils 38 = .ok (.isub, 1) := by decide +kernel
theorem dX1_coils_39 : decode cX1_coils 39 = .ok (.baload, 1) := by decide +kernel
theorem dX1_coils_40 : decode cX1_coils 40 = .ok (.istore 4, 2) := by decide +kernel
theorem dX1_coils_42 : decode cX1_coils 42 = .ok (.aload_n 0, 1) := by decide +kernel
theorem dX1_coils_43 : decode cX1_coils 43 = .ok (.getfield 13, 3) := by decide +kernel
theorem dX1_coils_46 : decode cX1_coils 46 = .ok (.iload_n 3, 1) := by decide +kernel
theorem dX1_coils_47 : decode cX1_coils 47 = .ok (.iaload, 1) := by decide +kernel
theorem dX1_coils_48 : decode cX1_coils 48 = .ok (.istore 5, 2) := by decide +kernel
theorem dX1_coils_50 : decode cX1_coils 50 = .ok (.aload_n 0, 1) := by decide +kernel
theorem dX1_coils_51 : decode cX1_coils 51 = .ok (.getfield 7, 3) := by decide +kernel
theorem dX1_coils_54 : decode cX1_coils 54 = .ok (.iload_n 3, 1) := by decide +kernel
theorem dX1_coils_55 : decode cX1_coils 55 = .ok (.iaload, 1) := by decide +kernel
theorem dX1_coils_56 : decode cX1_coils 56 = .ok (.bipush 6, 2) := by decide +kernel
theorem dX1_coils_58 : decode cX1_coils 58 = .ok (.if_icmp .lt 97, 3) := by decide +kernel
theorem dX1_coils_61 : decode cX1_coils 61 = .ok (.iload 4, 2) := by decide +kernel
theorem dX1_coils_63 : decode cX1_coils 63 = .ok (.ifCond .eq 9, 3) := by decide +kernel
theorem dX1_coils_66 : decode cX1_coils 66 = .ok (.iload_n 1, 1) := by decide +kernel
theorem dX1_coils_67 : decode cX1_coils 67 = .ok (.iconst 1, 1) := by decide +kernel
theorem dX1_coils_68 : decode cX1_coils 68 = .ok (.iadd, 1) := by decide +kernel
theorem dX1_coils_69 : decode cX1_coils 69 = .ok (.goto 4, 3) := by decide +kernel
theorem dX1_coils_72 : decode cX1_coils 72 = .ok (.iload_n 1, 1) := by decide +kernel
theorem dX1_coils_73 : decode cX1_coils 73 = .ok (.istore_n 1, 1) := by decide +kernel
theorem dX1_coils_74 : decode cX1_coils 74 = .ok (.aload_n 0, 1) := by decide +kernel
theorem dX1_coils_75 : decode cX1_coils 75 = .ok (.getfield 7, 3) := by decide +kernel
theorem dX1_coils_78 : decode cX1_coils 78 = .ok (.iload_n 3, 1) := by decide +kernel
theorem dX1_coils_79 : decode cX1_coils 79 = .ok (.iaload, 1) := by decide +kernel
theorem dX1_coils_80 : decode cX1_coils 80 = .ok (.bipush 6, 2) := by decide +kernel
theorem dX1_coils_82 : decode cX1_coils 82 = .ok (.isub, 1) := by decide +kernel
theorem dX1_coils_83 : decode cX1_coils 83 = .ok (.istore 6, 2) := by decide +kernel
theorem dX1_coils_85 : decode cX1_coils 85 = .ok (.aload_n 0, 1) := by decide +kernel
theorem dX1_coils_86 : decode cX1_coils 86 = .ok (.getfield 23, 3) := by decide +kernel
theorem dX1_coils_89 : decode cX1_coils 89 = .ok (.iload 5, 2) := by decide +kernel
theorem dX1_coils_91 : decode cX1_coils 91 = .ok (.iload 6, 2) := by decide +kernel
theorem dX1_coils_93 : decode cX1_coils 93 = .ok (.ifCond .ne 16, 3) := by decide +kernel
theorem dX1_coils_96 : decode cX1_coils 96 = .ok (.iload 4, 2) := by decide +kernel
theorem dX1_coils_98 : decode cX1_coils 98 = .ok (.ifCond .eq 7, 3) := by decide +kernel
theorem dX1_coils_101 : decode cX1_coils 101 = .ok (.iconst 1, 1) := by decide +kernel
theorem dX1_coils_102 : decode cX1_coils 102 = .ok (.goto 52, 3) := by decide +kernel
theorem dX1_coils_105 : decode cX1_coils 105 = .ok (.iconst 0, 1) := by decide +kernel
theorem dX1_coils_106 : decode cX1_coils 106 = .ok (.goto 48, 3) := by decide +kernel
theorem dX1_coils_109 : decode cX1_coils 109 = .ok (.iload 6, 2) := by decide +kernel
theorem dX1_coils_111 : decode cX1_coils 111 = .ok (.iconst 1, 1) := by decide +kernel
theorem dX1_coils_112 : decode cX1_coils 112 = .ok (.if_icmp .ne 16, 3) := by decide +kernel
theorem dX1_coils_115 : decode cX1_coils 115 = .ok (.iload 4, 2) := by decide +kernel
theorem dX1_coils_117 : decode cX1_coils 117 = .ok (.ifCond .eq 7, 3) := by decide +kernel
theorem dX1_coils_120 : decode cX1_coils 120 = .ok (.iconst 0, 1) := by decide +kernel
theorem dX1_coils_121 : decode cX1_coils 121 = .ok (.goto 33, 3) := by decide +kernel
theorem dX1_coils_124 : decode cX1_coils 124 = .ok (.iconst 1, 1) := by decide +kernel
theorem dX1_coils_125 : decode cX1_coils 125 = .ok (.goto 29, 3) := by decide +kernel
theorem dX1_coils_128 : decode cX1_coils 128 = .ok (.iload 4, 2) := by decide +kernel
theorem dX1_coils_130 : decode cX1_coils 130 = .ok (.ifCond .eq 17, 3) := by decide +kernel
theorem dX1_coils_133 : decode cX1_coils 133 = .ok (.iload 6, 2) := by decide +kernel
theorem dX1_coils_135 : decode cX1_coils 135 = .ok (.iconst 2, 1) := by decide +kernel
theorem dX1_coils_136 : decode cX1_coils 136 = .ok (.if_icmp .ne 7, 3) := by decide +kernel
theorem dX1_coils_139 : decode cX1_coils 139 = .ok (.iconst 1, 1) := by decide +kernel
theorem dX1_coils_140 : decode cX1_coils 140 = .ok (.goto 14, 3) := by decide +kernel
theorem dX1_coils_143 : decode cX1_coils 143 = .ok (.iconst 0, 1) := by decide +kernel
theorem dX1_coils_144 : decode cX1_coils 144 = .ok (.goto 10, 3) := by decide +kernel
theorem dX1_coils_147 : decode cX1_coils 147 = .ok (.aload_n 0, 1) := by decide +kernel
theorem dX1_coils_148 : decode cX1_coils 148 = .ok (.getfield 23, 3) := by decide +kernel
theorem dX1_coils_151 : decode cX1_coils 151 = .ok (.iload 5, 2) := by decide +kernel
theorem dX1_coils_153 : decode cX1_coils 153 = .ok (.iaload, 1) := by decide +kernel
theorem dX1_coils_154 : decode cX1_coils 154 = .ok (.iastore, 1) := by decide +kernel
theorem dX1_coils_155 : decode cX1_coils 155 = .ok (.iinc 2 1, 3) := by decide +kernel
theorem dX1_coils_158 : decode cX1_coils 158 = .ok (.goto (-154), 3) := by decide +kernel
theorem dX1_coils_161 : decode cX1_coils 161 = .ok (.iload_n 1, 1) := by decide +kernel
theorem dX1_coils_162 : decode cX1_coils 162 = .ok (.ireturn, 1) := by decide +kernel
set_option maxRecDepth 20000 in
theorem ggX1_scan_X1_lets : GoodIn wsX1_scan wsX1_lets := goodIn_r _ [13, 1, 7, 14, 6, 24, 25, 26, 27, 28, 29, 30, 31, 32, 33] (by decide +kernel) (by decide +kernel)
set_option maxRecDepth 20000 in
theorem gX1_scan_X1_lets : GoodIn wsX1_scan (wsV RX1 55 RX1 yX1_lets wsX1_lets) := goodIn_app (goodIn_of _ (by decide +kernel)) ggX1_scan_X1_lets
set_option maxRecDepth 20000 in
theorem ggX1_scan_X1_spread : GoodIn wsX1_scan wsX1_spread := goodIn_r _ [18, 3, 19, 4, 24, 25, 26, 27, 28, 29, 30, 31, 32, 33] (by decide +kernel) (by decide +kernel)
set_option maxRecDepth 20000 in
theorem gX1_scan_X1_spread : GoodIn wsX1_scan (wsV RX1 58 RX1 yX1_spread wsX1_spread) := goodIn_app (goodIn_of _ (by decide +kernel)) ggX1_scan_X1_spread
set_option maxRecDepth 20000 in
theorem ggX1_scan_X1_coils : GoodIn wsX1_scan wsX1_coils := goodIn_r _ [23, 3, 5, 4, 7, 14, 2, 24, 25, 26, 27, 28, 29, 30, 31, 32, 33] (by decide +kernel) (by decide +kernel)
set_option maxRecDepth 20000 in
theorem gX1_scan_X1_coils : GoodIn wsX1_scan (wsV RX1 62 RX1 yX1_coils wsX1_coils) := goodIn_app (goodIn_of _ (by decide +kernel)) ggX1_scan_X1_coils
theorem dX1_scan_0 : decode cX1_scan 0 = .ok (.iconst 0, 1) := by decide +kernel
theorem dX1_scan_1 : decode cX1_scan 1 = .ok (.istore_n 1, 1) := by decide +kernel
theorem dX1_scan_2 : decode cX1_scan 2 = .ok (.iload_n 1, 1) := by decide +kernel
theorem dX1_scan_3 : decode cX1_scan 3 = .ok (.bipush 40, 2) := by decide +kernel
theorem dX1_scan_5 : decode cX1_scan 5 = .ok (.if_icmp .ge 21, 3) := by decide +kernel
theorem dX1_scan_8 : decode cX1_scan 8 = .ok (.aload_n 0, 1) := by decide +kernel
theorem dX1_scan_9 : decode cX1_scan 9 = .ok (.getfield 26, 3) := by decide +kernel
theorem dX1_scan_12 : decode cX1_scan 12 = .ok (.iload_n 1, 1) := by decide +kernel
theorem dX1_scan_13 : decode cX1_scan 13 = .ok (.aload_n 0, 1) := by decide +kernel
theorem dX1_scan_14 : decode cX1_scan 14 = .ok (.getfield 23, 3) := by decide +kernel
theorem dX1_scan_17 : decode cX1_scan 17 = .ok (.iload_n 1, 1) := by decide +kernel
theorem dX1_scan_18 : decode cX1_scan 18 = .ok (.iaload, 1) := by decide +kernel
theorem dX1_scan_19 : decode cX1_scan 19 = .ok (.iastore, 1) := by decide +kernel
theorem dX1_scan_20 : decode cX1_scan 20 = .ok (.iinc 1 1, 3) := by decide +kernel
theorem dX1_scan_23 : decode cX1_scan 23 = .ok (.goto (-21), 3) := by decide +kernel
theorem dX1_scan_26 : decode cX1_scan 26 = .ok (.iconst 0, 1) := by decide +kernel
theorem dX1_scan_27 : decode cX1_scan 27 = .ok (.istore_n 1, 1) := by decide +kernel
theorem dX1_scan_28 : decode cX1_scan 28 = .ok (.iload_n 1, 1) := by decide +kernel
theorem dX1_scan_29 : decode cX1_scan 29 = .ok (.aload_n 0, 1) := by decide +kernel
theorem dX1_scan_30 : decode cX1_scan 30 = .ok (.getfield 36, 3) := by decide +kernel
theorem dX1_scan_33 : decode cX1_scan 33 = .ok (.if_icmp .ge 19, 3) := by decide +kernel
theorem dX1_scan_36 : decode cX1_scan 36 = .ok (.aload_n 0, 1) := by decide +kernel
theorem dX1_scan_37 : decode cX1_scan 37 = .ok (.getfield 29, 3) := by decide +kernel
theorem dX1_scan_40 : decode cX1_scan 40 = .ok (.bipush 13, 2) := by decide +kernel
theorem dX1_scan_42 : decode cX1_scan 42 = .ok (.iload_n 1, 1) := by decide +kernel
theorem dX1_scan_43 : decode cX1_scan 43 = .ok (.imul, 1) := by decide +kernel
theorem dX1_scan_44 : decode cX1_scan 44 = .ok (.iconst 1, 1) := by decide +kernel
theorem dX1_scan_45 : decode cX1_scan 45 = .ok (.bastore, 1) := by decide +kernel
theorem dX1_scan_46 : decode cX1_scan 46 = .ok (.iinc 1 1, 3) := by decide +kernel
theorem dX1_scan_49 : decode cX1_scan 49 = .ok (.goto (-21), 3) := by decide +kernel
theorem dX1_scan_52 : decode cX1_scan 52 = .ok (.iconst 0, 1) := by decide +kernel
theorem dX1_scan_53 : decode cX1_scan 53 = .ok (.istore_n 1, 1) := by decide +kernel
theorem dX1_scan_54 : decode cX1_scan 54 = .ok (.iload_n 1, 1) := by decide +kernel
theorem dX1_scan_55 : decode cX1_scan 55 = .ok (.aload_n 0, 1) := by decide +kernel
theorem dX1_scan_56 : decode cX1_scan 56 = .ok (.getfield 40, 3) := by decide +kernel
theorem dX1_scan_59 : decode cX1_scan 59 = .ok (.if_icmp .ge 106, 3) := by decide +kernel
theorem dX1_scan_62 : decode cX1_scan 62 = .ok (.iconst 0, 1) := by decide +kernel
theorem dX1_scan_63 : decode cX1_scan 63 = .ok (.istore_n 2, 1) := by decide +kernel
theorem dX1_scan_64 : decode cX1_scan 64 = .ok (.iload_n 2, 1) := by decide +kernel
theorem dX1_scan_65 : decode cX1_scan 65 = .ok (.aload_n 0, 1) := by decide +kernel
theorem dX1_scan_66 : decode cX1_scan 66 = .ok (.getfield 36, 3) := by decide +kernel
theorem dX1_scan_69 : decode cX1_scan 69 = .ok (.if_icmp .ge 73, 3) := by decide +kernel
theorem dX1_scan_72 : decode cX1_scan 72 = .ok (.bipush 12, 2) := by decide +kernel
theorem dX1_scan_74 : decode cX1_scan 74 = .ok (.iload_n 2, 1) := by decide +kernel
theorem dX1_scan_75 : decode cX1_scan 75 = .ok (.imul, 1) := by decide +kernel
theorem dX1_scan_76 : decode cX1_scan 76 = .ok (.iload_n 1, 1) := by decide +kernel
theorem dX1_scan_77 : decode cX1_scan 77 = .ok (.iadd, 1) := by decide +kernel
theorem dX1_scan_78 : decode cX1_scan 78 = .ok (.istore_n 3, 1) := by decide +kernel
theorem dX1_scan_79 : decode cX1_scan 79 = .ok (.aload_n 0, 1) := by decide +kernel
theorem dX1_scan_80 : decode cX1_scan 80 = .ok (.getfield 29, 3) := by decide +kernel
theorem dX1_scan_83 : decode cX1_scan 83 = .ok (.bipush 13, 2) := by decide +kernel
theorem dX1_scan_85 : decode cX1_scan 85 = .ok (.iload_n 2, 1) := by decide +kernel
theorem dX1_scan_86 : decode cX1_scan 86 = .ok (.imul, 1) := by decide +kernel
theorem dX1_scan_87 : decode cX1_scan 87 = .ok (.iload_n 1, 1) := by decide +kernel
theorem dX1_scan_88 : decode cX1_scan 88 = .ok (.iadd, 1) := by decide +kernel
theorem dX1_scan_89 : decode cX1_scan 89 = .ok (.iconst 1, 1) := by decide +kernel
theorem dX1_scan_90 : decode cX1_scan 90 = .ok (.iadd, 1) := by decide +kernel
theorem dX1_scan_91 : decode cX1_scan 91 = .ok (.aload_n 0, 1) := by decide +kernel
theorem dX1_scan_92 : decode cX1_scan 92 = .ok (.getfield 29, 3) := by decide +kernel
theorem dX1_scan_95 : decode cX1_scan 95 = .ok (.bipush 13, 2) := by decide +kernel
theorem dX1_scan_97 : decode cX1_scan 97 = .ok (.iload_n 2, 1) := by decide +kernel
theorem dX1_scan_98 : decode cX1_scan 98 = .ok (.imul, 1) := by decide +kernel
theorem dX1_scan_99 : decode cX1_scan 99 = .ok (.iload_n 1, 1) := by decide +kernel
theorem dX1_scan_100 : decode cX1_scan 100 = .ok (.iadd, 1) := by decide +kernel
theorem dX1_scan_101 : decode cX1_scan 101 = .ok (.baload, 1) := by decide +kernel
theorem dX1_scan_102 : decode cX1_scan 102 = .ok (.ifCond .eq 15, 3) := by decide +kernel
theorem dX1_scan_105 : decode cX1_scan 105 = .ok (.aload_n 0, 1) := by decide +kernel
theorem dX1_scan_106 : decode cX1_scan 106 = .ok (.iload_n 3, 1) := by decide +kernel
theorem dX1_scan_107 : decode cX1_scan 107 = .ok (.invokevirtual 55, 3) := by decide +kernel
theorem dX1_scan_110 : decode cX1_scan 110 = .ok (.ifCond .eq 7, 3) := by decide +kernel
theorem dX1_scan_113 : decode cX1_scan 113 = .ok (.iconst 1, 1) := by decide +kernel
theorem dX1_scan_114 : decode cX1_scan 114 = .ok (.goto 4, 3) := by decide +kernel
theorem dX1_scan_117 : decode cX1_scan 117 = .ok (.iconst 0, 1) := by decide +kernel
theorem dX1_scan_118 : decode cX1_scan 118 = .ok (.bastore, 1) := by decide +kernel
theorem dX1_scan_119 : decode cX1_scan 119 = .ok (.aload_n 0, 1) := by decide +kernel
theorem dX1_scan_120 : decode cX1_scan 120 = .ok (.getfield 16, 3) := by decide +kernel
theorem dX1_scan_123 : decode cX1_scan 123 = .ok (.iload_n 3, 1) := by decide +kernel
theorem dX1_scan_124 : decode cX1_scan 124 = .ok (.aload_n 0, 1) := by decide +kernel
theorem dX1_scan_125 : decode cX1_scan 125 = .ok (.getfield 26, 3) := by decide +kernel
theorem dX1_scan_128 : decode cX1_scan 128 = .ok (.aload_n 0, 1) := by decide +kernel
theorem dX1_scan_129 : decode cX1_scan 129 = .ok (.getfield 13, 3) := by decide +kernel
theorem dX1_scan_132 : decode cX1_scan 132 = .ok (.iload_n 3, 1) := by decide +kernel
theorem dX1_scan_133 : decode cX1_scan 133 = .ok (.iaload, 1) := by decide +kernel
theorem dX1_scan_134 : decode cX1_scan 134 = .ok (.iaload, 1) := by decide +kernel
theorem dX1_scan_135 : decode cX1_scan 135 = .ok (.iastore, 1) := by decide +kernel
theorem dX1_scan_136 : decode cX1_scan 136 = .ok (.iinc 2 1, 3) := by decide +kernel
theorem dX1_scan_139 : decode cX1_scan 139 = .ok (.goto (-75), 3) := by decide +kernel
theorem dX1_scan_142 : decode cX1_scan 142 = .ok (.iload_n 1, 1) := by decide +kernel
theorem dX1_scan_143 : decode cX1_scan 143 = .ok (.iconst 1, 1) := by decide +kernel
theorem dX1_scan_144 : decode cX1_scan 144 = .ok (.iadd, 1) := by decide +kernel
theorem dX1_scan_145 : decode cX1_scan 145 = .ok (.aload_n 0, 1) := by decide +kernel
theorem dX1_scan_146 : decode cX1_scan 146 = .ok (.getfield 40, 3) := by decide +kernel
theorem dX1_scan_149 : decode cX1_scan 149 = .ok (.if_icmp .ge 10, 3) := by decide +kernel
theorem dX1_scan_152 : decode cX1_scan 152 = .ok (.aload_n 0, 1) := by decide +kernel
theorem dX1_scan_153 : decode cX1_scan 153 = .ok (.iload_n 1, 1) := by decide +kernel
theorem dX1_scan_154 : decode cX1_scan 154 = .ok (.iconst 1, 1) := by decide +kernel
theorem dX1_scan_155 : decode cX1_scan 155 = .ok (.iadd, 1) := by decide +kernel
theorem dX1_scan_156 : decode cX1_scan 156 = .ok (.invokevirtual 58, 3) := by decide +kernel
theorem dX1_scan_159 : decode cX1_scan 159 = .ok (.iinc 1 1, 3) := by decide +kernel
theorem dX1_scan_162 : decode cX1_scan 162 = .ok (.goto (-108), 3) := by decide +kernel
theorem dX1_scan_165 : decode cX1_scan 165 = .ok (.aload_n 0, 1) := by decide +kernel
theorem dX1_scan_166 : decode cX1_scan 166 = .ok (.iconst 1, 1) := by decide +kernel
theorem dX1_scan_167 : decode cX1_scan 167 = .ok (.putfield 43, 3) := by decide +kernel
theorem dX1_scan_170 : decode cX1_scan 170 = .ok (.aload_n 0, 1) := by decide +kernel
theorem dX1_scan_171 : decode cX1_scan 171 = .ok (.invokevirtual 62, 3) := by decide +kernel
theorem dX1_scan_174 : decode cX1_scan 174 = .ok (.ireturn, 1) := by decide +kernel
theorem dX1_power_0 : decode cX1_power 0 = .ok (.iload_n 1, 1) := by decide +kernel
theorem dX1_power_1 : decode cX1_power 1 = .ok (.ifCond .lt 59, 3) := by decide +kernel
theorem dX1_power_4 : decode cX1_power 4 = .ok (.iload_n 1, 1) := by decide +kernel
theorem dX1_power_5 : decode cX1_power 5 = .ok (.aload_n 0, 1) := by decide +kernel
theorem dX1_power_6 : decode cX1_power 6 = .ok (.getfield 36, 3) := by decide +kernel
theorem dX1_power_9 : decode cX1_power 9 = .ok (.if_icmp .ge 51, 3) := by decide +kernel
theorem dX1_power_12 : decode cX1_power 12 = .ok (.iload_n 2, 1) := by decide +kernel
theorem dX1_power_13 : decode cX1_power 13 = .ok (.ifCond .lt 47, 3) := by decide +kernel
theorem dX1_power_16 : decode cX1_power 16 = .ok (.iload_n 2, 1) := by decide +kernel
theorem dX1_power_17 : decode cX1_power 17 = .ok (.aload_n 0, 1) := by decide +kernel
theorem dX1_power_18 : decode cX1_power 18 = .ok (.getfield 40, 3) := by decide +kernel
theorem dX1_power_21 : decode cX1_power 21 = .ok (.if_icmp .gt 39, 3) := by decide +kernel
theorem dX1_power_24 : decode cX1_power 24 = .ok (.aload_n 0, 1) := by decide +kernel
theorem dX1_power_25 : decode cX1_power 25 = .ok (.getfield 43, 3) := by decide +kernel
theorem dX1_power_28 : decode cX1_power 28 = .ok (.ifCond .eq 32, 3) := by decide +kernel
theorem dX1_power_31 : decode cX1_power 31 = .ok (.iload_n 2, 1) := by decide +kernel
theorem dX1_power_32 : decode cX1_power 32 = .ok (.aload_n 0, 1) := by decide +kernel
theorem dX1_power_33 : decode cX1_power 33 = .ok (.getfield 40, 3) := by decide +kernel
theorem dX1_power_36 : decode cX1_power 36 = .ok (.if_icmp .ne 26, 3) := by decide +kernel
theorem dX1_power_39 : decode cX1_power 39 = .ok (.aload_n 0, 1) := by decide +kernel
theorem dX1_power_40 : decode cX1_power 40 = .ok (.getfield 7, 3) := by decide +kernel
theorem dX1_power_43 : decode cX1_power 43 = .ok (.bipush 12, 2) := by decide +kernel
theorem dX1_power_45 : decode cX1_power 45 = .ok (.iload_n 1, 1) := by decide +kernel
theorem dX1_power_46 : decode cX1_power 46 = .ok (.imul, 1) := by decide +kernel
theorem dX1_power_47 : decode cX1_power 47 = .ok (.aload_n 0, 1) := by decide +kernel
theorem dX1_power_48 : decode cX1_power 48 = .ok (.getfield 40, 3) := by decide +kernel
theorem dX1_power_51 : decode cX1_power 51 = .ok (.iadd, 1) := by decide +kernel
theorem dX1_power_52 : decode cX1_power 52 = .ok (.iconst 1, 1) := by decide +kernel
theorem dX1_power_53 : decode cX1_power 53 = .ok (.isub, 1) := by decide +kernel
theorem dX1_power_54 : decode cX1_power 54 = .ok (.iaload, 1) := by decide +kernel
theorem dX1_power_55 : decode cX1_power 55 = .ok (.bipush 6, 2) := by decide +kernel
theorem dX1_power_57 : decode cX1_power 57 = .ok (.if_icmp .lt 5, 3) := by decide +kernel
theorem dX1_power_60 : decode cX1_power 60 = .ok (.iconst (-1), 1) := by decide +kernel
theorem dX1_power_61 : decode cX1_power 61 = .ok (.ireturn, 1) := by decide +kernel
theorem dX1_power_62 : decode cX1_power 62 = .ok (.aload_n 0, 1) := by decide +kernel
theorem dX1_power_63 : decode cX1_power 63 = .ok (.getfield 29, 3) := by decide +kernel
theorem dX1_power_66 : decode cX1_power 66 = .ok (.bipush 13, 2) := by decide +kernel
theorem dX1_power_68 : decode cX1_power 68 = .ok (.iload_n 1, 1) := by decide +kernel
theorem dX1_power_69 : decode cX1_power 69 = .ok (.imul, 1) := by decide +kernel
theorem dX1_power_70 : decode cX1_power 70 = .ok (.iload_n 2, 1) := by decide +kernel
theorem dX1_power_71 : decode cX1_power 71 = .ok (.iadd, 1) := by decide +kernel
theorem dX1_power_72 : decode cX1_power 72 = .ok (.baload, 1) := by decide +kernel
theorem dX1_power_73 : decode cX1_power 73 = .ok (.ifCond .eq 7, 3) := by decide +kernel
theorem dX1_power_76 : decode cX1_power 76 = .ok (.iconst 1, 1) := by decide +kernel
theorem dX1_power_77 : decode cX1_power 77 = .ok (.goto 4, 3) := by decide +kernel
theorem dX1_power_80 : decode cX1_power 80 = .ok (.iconst 0, 1) := by decide +kernel
theorem dX1_power_81 : decode cX1_power 81 = .ok (.ireturn, 1) := by decide +kernel
theorem dX1_term_0 : decode cX1_term 0 = .ok (.iload_n 0, 1) := by decide +kernel
theorem dX1_term_1 : decode cX1_term 1 = .ok (.iconst 1, 1) := by decide +kernel
theorem dX1_term_2 : decode cX1_term 2 = .ok (.if_icmp .ne 7, 3) := by decide +kernel
theorem dX1_term_5 : decode cX1_term 5 = .ok (.iconst 1, 1) := by decide +kernel
theorem dX1_term_6 : decode cX1_term 6 = .ok (.goto 23, 3) := by decide +kernel
theorem dX1_term_9 : decode cX1_term 9 = .ok (.iload_n 0, 1) := by decide +kernel
theorem dX1_term_10 : decode cX1_term 10 = .ok (.iconst 2, 1) := by decide +kernel
theorem dX1_term_11 : decode cX1_term 11 = .ok (.if_icmp .ne 7, 3) := by decide +kernel
theorem dX1_term_14 : decode cX1_term 14 = .ok (.iconst 3, 1) := by decide +kernel
theorem dX1_term_15 : decode cX1_term 15 = .ok (.goto 14, 3) := by decide +kernel
theorem dX1_term_18 : decode cX1_term 18 = .ok (.iload_n 0, 1) := by decide +kernel
theorem dX1_term_19 : decode cX1_term 19 = .ok (.iconst 3, 1) := by decide +kernel
theorem dX1_term_20 : decode cX1_term 20 = .ok (.if_icmp .ne 7, 3) := by decide +kernel
theorem dX1_term_23 : decode cX1_term 23 = .ok (.iconst 4, 1) := by decide +kernel
theorem dX1_term_24 : decode cX1_term 24 = .ok (.goto 5, 3) := by decide +kernel
theorem dX1_term_27 : decode cX1_term 27 = .ok (.bipush 8, 2) := by decide +kernel
theorem dX1_term_29 : decode cX1_term 29 = .ok (.ireturn, 1) := by decide +kernel
set_option maxRecDepth 20000 in
theorem ggX1_lineSteps_X1_term : GoodIn wsX1_lineSteps wsX1_term := goodIn_r _ [8] (by decide +kernel) (by decide +kernel)
set_option maxRecDepth 20000 in
theorem gX1_lineSteps_X1_term : GoodIn wsX1_lineSteps (va_wsS RX1 66 yX1_term wsX1_term) := goodIn_app (goodIn_of _ (by decide +kernel)) ggX1_lineSteps_X1_term
