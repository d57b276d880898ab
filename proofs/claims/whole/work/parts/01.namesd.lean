theorem dX1_lineSteps_0 : decode cX1_lineSteps 0 = .ok (.iconst 0, 1) := by decide +kernel
theorem dX1_lineSteps_1 : decode cX1_lineSteps 1 = .ok (.istore_n 2, 1) := by decide +kernel
theorem dX1_lineSteps_2 : decode cX1_lineSteps 2 = .ok (.iconst 0, 1) := by decide +kernel
theorem dX1_lineSteps_3 : decode cX1_lineSteps 3 = .ok (.istore_n 3, 1) := by decide +kernel
theorem dX1_lineSteps_4 : decode cX1_lineSteps 4 = .ok (.iconst 0, 1) := by decide +kernel
theorem dX1_lineSteps_5 : decode cX1_lineSteps 5 = .ok (.istore 4, 2) := by decide +kernel
theorem dX1_lineSteps_7 : decode cX1_lineSteps 7 = .ok (.iload 4, 2) := by decide +kernel
theorem dX1_lineSteps_9 : decode cX1_lineSteps 9 = .ok (.aload_n 0, 1) := by decide +kernel
theorem dX1_lineSteps_10 : decode cX1_lineSteps 10 = .ok (.getfield 36, 3) := by decide +kernel
theorem dX1_lineSteps_13 : decode cX1_lineSteps 13 = .ok (.if_icmp .ge 139, 3) := by decide +kernel
theorem dX1_lineSteps_16 : decode cX1_lineSteps 16 = .ok (.aload_n 0, 1) := by decide +kernel
theorem dX1_lineSteps_17 : decode cX1_lineSteps 17 = .ok (.getfield 7, 3) := by decide +kernel
theorem dX1_lineSteps_20 : decode cX1_lineSteps 20 = .ok (.bipush 12, 2) := by decide +kernel
theorem dX1_lineSteps_22 : decode cX1_lineSteps 22 = .ok (.iload 4, 2) := by decide +kernel
theorem dX1_lineSteps_24 : decode cX1_lineSteps 24 = .ok (.imul, 1) := by decide +kernel
theorem dX1_lineSteps_25 : decode cX1_lineSteps 25 = .ok (.iload_n 1, 1) := by decide +kernel
theorem dX1_lineSteps_26 : decode cX1_lineSteps 26 = .ok (.iadd, 1) := by decide +kernel
theorem dX1_lineSteps_27 : decode cX1_lineSteps 27 = .ok (.iconst 1, 1) := by decide +kernel
theorem dX1_lineSteps_28 : decode cX1_lineSteps 28 = .ok (.isub, 1) := by decide +kernel
theorem dX1_lineSteps_29 : decode cX1_lineSteps 29 = .ok (.iaload, 1) := by decide +kernel
theorem dX1_lineSteps_30 : decode cX1_lineSteps 30 = .ok (.istore 5, 2) := by decide +kernel
theorem dX1_lineSteps_32 : decode cX1_lineSteps 32 = .ok (.iload 5, 2) := by decide +kernel
theorem dX1_lineSteps_34 : decode cX1_lineSteps 34 = .ok (.bipush 6, 2) := by decide +kernel
theorem dX1_lineSteps_36 : decode cX1_lineSteps 36 = .ok (.if_icmp .lt 8, 3) := by decide +kernel
theorem dX1_lineSteps_39 : decode cX1_lineSteps 39 = .ok (.iconst 0, 1) := by decide +kernel
theorem dX1_lineSteps_40 : decode cX1_lineSteps 40 = .ok (.istore_n 3, 1) := by decide +kernel
theorem dX1_lineSteps_41 : decode cX1_lineSteps 41 = .ok (.goto 105, 3) := by decide +kernel
theorem dX1_lineSteps_44 : decode cX1_lineSteps 44 = .ok (.iload 5, 2) := by decide +kernel
theorem dX1_lineSteps_46 : decode cX1_lineSteps 46 = .ok (.ifCond .ne 7, 3) := by decide +kernel
theorem dX1_lineSteps_49 : decode cX1_lineSteps 49 = .ok (.iload_n 2, 1) := by decide +kernel
theorem dX1_lineSteps_50 : decode cX1_lineSteps 50 = .ok (.goto 20, 3) := by decide +kernel
theorem dX1_lineSteps_53 : decode cX1_lineSteps 53 = .ok (.iload_n 2, 1) := by decide +kernel
theorem dX1_lineSteps_54 : decode cX1_lineSteps 54 = .ok (.iload 5, 2) := by decide +kernel
theorem dX1_lineSteps_56 : decode cX1_lineSteps 56 = .ok (.invokestatic 66, 3) := by decide +kernel
theorem dX1_lineSteps_59 : decode cX1_lineSteps 59 = .ok (.iadd, 1) := by decide +kernel
theorem dX1_lineSteps_60 : decode cX1_lineSteps 60 = .ok (.iload_n 3, 1) := by decide +kernel
theorem dX1_lineSteps_61 : decode cX1_lineSteps 61 = .ok (.ifCond .le 7, 3) := by decide +kernel
theorem dX1_lineSteps_64 : decode cX1_lineSteps 64 = .ok (.iconst 1, 1) := by decide +kernel
theorem dX1_lineSteps_65 : decode cX1_lineSteps 65 = .ok (.goto 4, 3) := by decide +kernel
theorem dX1_lineSteps_68 : decode cX1_lineSteps 68 = .ok (.iconst 0, 1) := by decide +kernel
theorem dX1_lineSteps_69 : decode cX1_lineSteps 69 = .ok (.iadd, 1) := by decide +kernel
theorem dX1_lineSteps_70 : decode cX1_lineSteps 70 = .ok (.istore_n 2, 1) := by decide +kernel
theorem dX1_lineSteps_71 : decode cX1_lineSteps 71 = .ok (.iload 5, 2) := by decide +kernel
theorem dX1_lineSteps_73 : decode cX1_lineSteps 73 = .ok (.ifCond .ne 7, 3) := by decide +kernel
theorem dX1_lineSteps_76 : decode cX1_lineSteps 76 = .ok (.iload_n 3, 1) := by decide +kernel
theorem dX1_lineSteps_77 : decode cX1_lineSteps 77 = .ok (.goto 6, 3) := by decide +kernel
theorem dX1_lineSteps_80 : decode cX1_lineSteps 80 = .ok (.iload_n 3, 1) := by decide +kernel
theorem dX1_lineSteps_81 : decode cX1_lineSteps 81 = .ok (.iconst 1, 1) := by decide +kernel
theorem dX1_lineSteps_82 : decode cX1_lineSteps 82 = .ok (.iadd, 1) := by decide +kernel
theorem dX1_lineSteps_83 : decode cX1_lineSteps 83 = .ok (.istore_n 3, 1) := by decide +kernel
theorem dX1_lineSteps_84 : decode cX1_lineSteps 84 = .ok (.iload_n 1, 1) := by decide +kernel
theorem dX1_lineSteps_85 : decode cX1_lineSteps 85 = .ok (.aload_n 0, 1) := by decide +kernel
theorem dX1_lineSteps_86 : decode cX1_lineSteps 86 = .ok (.getfield 40, 3) := by decide +kernel
theorem dX1_lineSteps_89 : decode cX1_lineSteps 89 = .ok (.if_icmp .ge 33, 3) := by decide +kernel
theorem dX1_lineSteps_92 : decode cX1_lineSteps 92 = .ok (.iload 4, 2) := by decide +kernel
theorem dX1_lineSteps_94 : decode cX1_lineSteps 94 = .ok (.iconst 1, 1) := by decide +kernel
theorem dX1_lineSteps_95 : decode cX1_lineSteps 95 = .ok (.iadd, 1) := by decide +kernel
theorem dX1_lineSteps_96 : decode cX1_lineSteps 96 = .ok (.aload_n 0, 1) := by decide +kernel
theorem dX1_lineSteps_97 : decode cX1_lineSteps 97 = .ok (.getfield 36, 3) := by decide +kernel
theorem dX1_lineSteps_100 : decode cX1_lineSteps 100 = .ok (.if_icmp .ge 22, 3) := by decide +kernel
theorem dX1_lineSteps_103 : decode cX1_lineSteps 103 = .ok (.aload_n 0, 1) := by decide +kernel
theorem dX1_lineSteps_104 : decode cX1_lineSteps 104 = .ok (.getfield 19, 3) := by decide +kernel
theorem dX1_lineSteps_107 : decode cX1_lineSteps 107 = .ok (.bipush 13, 2) := by decide +kernel
theorem dX1_lineSteps_109 : decode cX1_lineSteps 109 = .ok (.iload 4, 2) := by decide +kernel
theorem dX1_lineSteps_111 : decode cX1_lineSteps 111 = .ok (.imul, 1) := by decide +kernel
theorem dX1_lineSteps_112 : decode cX1_lineSteps 112 = .ok (.iload_n 1, 1) := by decide +kernel
theorem dX1_lineSteps_113 : decode cX1_lineSteps 113 = .ok (.iadd, 1) := by decide +kernel
theorem dX1_lineSteps_114 : decode cX1_lineSteps 114 = .ok (.baload, 1) := by decide +kernel
theorem dX1_lineSteps_115 : decode cX1_lineSteps 115 = .ok (.ifCond .eq 7, 3) := by decide +kernel
theorem dX1_lineSteps_118 : decode cX1_lineSteps 118 = .ok (.iconst 1, 1) := by decide +kernel
theorem dX1_lineSteps_119 : decode cX1_lineSteps 119 = .ok (.goto 4, 3) := by decide +kernel
theorem dX1_lineSteps_122 : decode cX1_lineSteps 122 = .ok (.iconst 0, 1) := by decide +kernel
theorem dX1_lineSteps_123 : decode cX1_lineSteps 123 = .ok (.istore 6, 2) := by decide +kernel
theorem dX1_lineSteps_125 : decode cX1_lineSteps 125 = .ok (.iload 6, 2) := by decide +kernel
theorem dX1_lineSteps_127 : decode cX1_lineSteps 127 = .ok (.ifCond .ne 19, 3) := by decide +kernel
theorem dX1_lineSteps_130 : decode cX1_lineSteps 130 = .ok (.iload_n 3, 1) := by decide +kernel
theorem dX1_lineSteps_131 : decode cX1_lineSteps 131 = .ok (.ifCond .ne 9, 3) := by decide +kernel
theorem dX1_lineSteps_134 : decode cX1_lineSteps 134 = .ok (.iload_n 2, 1) := by decide +kernel
theorem dX1_lineSteps_135 : decode cX1_lineSteps 135 = .ok (.iconst 2, 1) := by decide +kernel
theorem dX1_lineSteps_136 : decode cX1_lineSteps 136 = .ok (.iadd, 1) := by decide +kernel
theorem dX1_lineSteps_137 : decode cX1_lineSteps 137 = .ok (.goto 6, 3) := by decide +kernel
theorem dX1_lineSteps_140 : decode cX1_lineSteps 140 = .ok (.iload_n 2, 1) := by decide +kernel
theorem dX1_lineSteps_141 : decode cX1_lineSteps 141 = .ok (.iconst 1, 1) := by decide +kernel
theorem dX1_lineSteps_142 : decode cX1_lineSteps 142 = .ok (.iadd, 1) := by decide +kernel
theorem dX1_lineSteps_143 : decode cX1_lineSteps 143 = .ok (.istore_n 2, 1) := by decide +kernel
theorem dX1_lineSteps_144 : decode cX1_lineSteps 144 = .ok (.iconst 0, 1) := by decide +kernel
theorem dX1_lineSteps_145 : decode cX1_lineSteps 145 = .ok (.istore_n 3, 1) := by decide +kernel
theorem dX1_lineSteps_146 : decode cX1_lineSteps 146 = .ok (.iinc 4 1, 3) := by decide +kernel
theorem dX1_lineSteps_149 : decode cX1_lineSteps 149 = .ok (.goto (-142), 3) := by decide +kernel
theorem dX1_lineSteps_152 : decode cX1_lineSteps 152 = .ok (.iload_n 2, 1) := by decide +kernel
theorem dX1_lineSteps_153 : decode cX1_lineSteps 153 = .ok (.ireturn, 1) := by decide +kernel
set_option maxRecDepth 20000 in
theorem ggX1_steps_X1_lineSteps : GoodIn wsX1_steps wsX1_lineSteps := goodIn_r _ [8, 2, 3, 1, 9, 10, 11, 7, 12, 13, 14, 15, 16, 17, 18, 19, 20, 21, 22] (by decide +kernel) (by decide +kernel)
set_option maxRecDepth 20000 in
theorem gX1_steps_X1_lineSteps : GoodIn wsX1_steps (wsV RX1 70 RX1 yX1_lineSteps wsX1_lineSteps) := goodIn_app (goodIn_of _ (by decide +kernel)) ggX1_steps_X1_lineSteps
theorem dX1_steps_0 : decode cX1_steps 0 = .ok (.iconst 0, 1) := by decide +kernel
theorem dX1_steps_1 : decode cX1_steps 1 = .ok (.istore_n 1, 1) := by decide +kernel
theorem dX1_steps_2 : decode cX1_steps 2 = .ok (.iconst 1, 1) := by decide +kernel
theorem dX1_steps_3 : decode cX1_steps 3 = .ok (.istore_n 2, 1) := by decide +kernel
theorem dX1_steps_4 : decode cX1_steps 4 = .ok (.iload_n 2, 1) := by decide +kernel
theorem dX1_steps_5 : decode cX1_steps 5 = .ok (.aload_n 0, 1) := by decide +kernel
theorem dX1_steps_6 : decode cX1_steps 6 = .ok (.getfield 40, 3) := by decide +kernel
theorem dX1_steps_9 : decode cX1_steps 9 = .ok (.if_icmp .gt 17, 3) := by decide +kernel
theorem dX1_steps_12 : decode cX1_steps 12 = .ok (.iload_n 1, 1) := by decide +kernel
theorem dX1_steps_13 : decode cX1_steps 13 = .ok (.aload_n 0, 1) := by decide +kernel
theorem dX1_steps_14 : decode cX1_steps 14 = .ok (.iload_n 2, 1) := by decide +kernel
theorem dX1_steps_15 : decode cX1_steps 15 = .ok (.invokevirtual 70, 3) := by decide +kernel
theorem dX1_steps_18 : decode cX1_steps 18 = .ok (.iadd, 1) := by decide +kernel
theorem dX1_steps_19 : decode cX1_steps 19 = .ok (.istore_n 1, 1) := by decide +kernel
theorem dX1_steps_20 : decode cX1_steps 20 = .ok (.iinc 2 1, 3) := by decide +kernel
theorem dX1_steps_23 : decode cX1_steps 23 = .ok (.goto (-19), 3) := by decide +kernel
theorem dX1_steps_26 : decode cX1_steps 26 = .ok (.iconst 0, 1) := by decide +kernel
theorem dX1_steps_27 : decode cX1_steps 27 = .ok (.istore_n 2, 1) := by decide +kernel
theorem dX1_steps_28 : decode cX1_steps 28 = .ok (.iload_n 2, 1) := by decide +kernel
theorem dX1_steps_29 : decode cX1_steps 29 = .ok (.aload_n 0, 1) := by decide +kernel
theorem dX1_steps_30 : decode cX1_steps 30 = .ok (.getfield 36, 3) := by decide +kernel
theorem dX1_steps_33 : decode cX1_steps 33 = .ok (.if_icmp .ge 42, 3) := by decide +kernel
theorem dX1_steps_36 : decode cX1_steps 36 = .ok (.aload_n 0, 1) := by decide +kernel
theorem dX1_steps_37 : decode cX1_steps 37 = .ok (.getfield 7, 3) := by decide +kernel
theorem dX1_steps_40 : decode cX1_steps 40 = .ok (.bipush 12, 2) := by decide +kernel
theorem dX1_steps_42 : decode cX1_steps 42 = .ok (.iload_n 2, 1) := by decide +kernel
theorem dX1_steps_43 : decode cX1_steps 43 = .ok (.imul, 1) := by decide +kernel
theorem dX1_steps_44 : decode cX1_steps 44 = .ok (.aload_n 0, 1) := by decide +kernel
theorem dX1_steps_45 : decode cX1_steps 45 = .ok (.getfield 40, 3) := by decide +kernel
theorem dX1_steps_48 : decode cX1_steps 48 = .ok (.iadd, 1) := by decide +kernel
theorem dX1_steps_49 : decode cX1_steps 49 = .ok (.iconst 1, 1) := by decide +kernel
theorem dX1_steps_50 : decode cX1_steps 50 = .ok (.isub, 1) := by decide +kernel
theorem dX1_steps_51 : decode cX1_steps 51 = .ok (.iaload, 1) := by decide +kernel
theorem dX1_steps_52 : decode cX1_steps 52 = .ok (.istore_n 3, 1) := by decide +kernel
theorem dX1_steps_53 : decode cX1_steps 53 = .ok (.iload_n 3, 1) := by decide +kernel
theorem dX1_steps_54 : decode cX1_steps 54 = .ok (.bipush 6, 2) := by decide +kernel
theorem dX1_steps_56 : decode cX1_steps 56 = .ok (.if_icmp .lt 11, 3) := by decide +kernel
theorem dX1_steps_59 : decode cX1_steps 59 = .ok (.iload_n 1, 1) := by decide +kernel
theorem dX1_steps_60 : decode cX1_steps 60 = .ok (.iload_n 3, 1) := by decide +kernel
theorem dX1_steps_61 : decode cX1_steps 61 = .ok (.iadd, 1) := by decide +kernel
theorem dX1_steps_62 : decode cX1_steps 62 = .ok (.iconst 4, 1) := by decide +kernel
theorem dX1_steps_63 : decode cX1_steps 63 = .ok (.isub, 1) := by decide +kernel
theorem dX1_steps_64 : decode cX1_steps 64 = .ok (.goto 4, 3) := by decide +kernel
theorem dX1_steps_67 : decode cX1_steps 67 = .ok (.iload_n 1, 1) := by decide +kernel
theorem dX1_steps_68 : decode cX1_steps 68 = .ok (.istore_n 1, 1) := by decide +kernel
theorem dX1_steps_69 : decode cX1_steps 69 = .ok (.iinc 2 1, 3) := by decide +kernel
theorem dX1_steps_72 : decode cX1_steps 72 = .ok (.goto (-44), 3) := by decide +kernel
theorem dX1_steps_75 : decode cX1_steps 75 = .ok (.iload_n 1, 1) := by decide +kernel
theorem dX1_steps_76 : decode cX1_steps 76 = .ok (.ireturn, 1) := by decide +kernel
theorem dX1_groups_0 : decode cX1_groups 0 = .ok (.iload_n 1, 1) := by decide +kernel
theorem dX1_groups_1 : decode cX1_groups 1 = .ok (.ifCond .lt 11, 3) := by decide +kernel
theorem dX1_groups_4 : decode cX1_groups 4 = .ok (.iload_n 1, 1) := by decide +kernel
theorem dX1_groups_5 : decode cX1_groups 5 = .ok (.aload_n 0, 1) := by decide +kernel
theorem dX1_groups_6 : decode cX1_groups 6 = .ok (.getfield 40, 3) := by decide +kernel
theorem dX1_groups_9 : decode cX1_groups 9 = .ok (.if_icmp .le 5, 3) := by decide +kernel
theorem dX1_groups_12 : decode cX1_groups 12 = .ok (.iconst (-1), 1) := by decide +kernel
theorem dX1_groups_13 : decode cX1_groups 13 = .ok (.ireturn, 1) := by decide +kernel
theorem dX1_groups_14 : decode cX1_groups 14 = .ok (.aload_n 0, 1) := by decide +kernel
theorem dX1_groups_15 : decode cX1_groups 15 = .ok (.getfield 36, 3) := by decide +kernel
theorem dX1_groups_18 : decode cX1_groups 18 = .ok (.istore_n 2, 1) := by decide +kernel
theorem dX1_groups_19 : decode cX1_groups 19 = .ok (.iconst 0, 1) := by decide +kernel
theorem dX1_groups_20 : decode cX1_groups 20 = .ok (.istore_n 3, 1) := by decide +kernel
theorem dX1_groups_21 : decode cX1_groups 21 = .ok (.iload_n 3, 1) := by decide +kernel
theorem dX1_groups_22 : decode cX1_groups 22 = .ok (.iconst 1, 1) := by decide +kernel
theorem dX1_groups_23 : decode cX1_groups 23 = .ok (.iadd, 1) := by decide +kernel
theorem dX1_groups_24 : decode cX1_groups 24 = .ok (.aload_n 0, 1) := by decide +kernel
theorem dX1_groups_25 : decode cX1_groups 25 = .ok (.getfield 36, 3) := by decide +kernel
theorem dX1_groups_28 : decode cX1_groups 28 = .ok (.if_icmp .ge 43, 3) := by decide +kernel
theorem dX1_groups_31 : decode cX1_groups 31 = .ok (.iload_n 1, 1) := by decide +kernel
theorem dX1_groups_32 : decode cX1_groups 32 = .ok (.ifCond .le 31, 3) := by decide +kernel
theorem dX1_groups_35 : decode cX1_groups 35 = .ok (.iload_n 1, 1) := by decide +kernel
theorem dX1_groups_36 : decode cX1_groups 36 = .ok (.aload_n 0, 1) := by decide +kernel
theorem dX1_groups_37 : decode cX1_groups 37 = .ok (.getfield 40, 3) := by decide +kernel
theorem dX1_groups_40 : decode cX1_groups 40 = .ok (.if_icmp .ge 23, 3) := by decide +kernel
theorem dX1_groups_43 : decode cX1_groups 43 = .ok (.aload_n 0, 1) := by decide +kernel
theorem dX1_groups_44 : decode cX1_groups 44 = .ok (.getfield 19, 3) := by decide +kernel
theorem dX1_groups_47 : decode cX1_groups 47 = .ok (.bipush 13, 2) := by decide +kernel
theorem dX1_groups_49 : decode cX1_groups 49 = .ok (.iload_n 3, 1) := by decide +kernel
theorem dX1_groups_50 : decode cX1_groups 50 = .ok (.imul, 1) := by decide +kernel
theorem dX1_groups_51 : decode cX1_groups 51 = .ok (.iload_n 1, 1) := by decide +kernel
theorem dX1_groups_52 : decode cX1_groups 52 = .ok (.iadd, 1) := by decide +kernel
theorem dX1_groups_53 : decode cX1_groups 53 = .ok (.baload, 1) := by decide +kernel
theorem dX1_groups_54 : decode cX1_groups 54 = .ok (.ifCond .eq 9, 3) := by decide +kernel
theorem dX1_groups_57 : decode cX1_groups 57 = .ok (.iload_n 2, 1) := by decide +kernel
theorem dX1_groups_58 : decode cX1_groups 58 = .ok (.iconst 1, 1) := by decide +kernel
theorem dX1_groups_59 : decode cX1_groups 59 = .ok (.isub, 1) := by decide +kernel
theorem dX1_groups_60 : decode cX1_groups 60 = .ok (.goto 4, 3) := by decide +kernel
theorem dX1_groups_63 : decode cX1_groups 63 = .ok (.iload_n 2, 1) := by decide +kernel
theorem dX1_groups_64 : decode cX1_groups 64 = .ok (.istore_n 2, 1) := by decide +kernel
theorem dX1_groups_65 : decode cX1_groups 65 = .ok (.iinc 3 1, 3) := by decide +kernel
theorem dX1_groups_68 : decode cX1_groups 68 = .ok (.goto (-47), 3) := by decide +kernel
theorem dX1_groups_71 : decode cX1_groups 71 = .ok (.iload_n 2, 1) := by decide +kernel
theorem dX1_groups_72 : decode cX1_groups 72 = .ok (.ireturn, 1) := by decide +kernel
theorem dJ7_fill_53178_0 : decode cJ7_fill_53178 0 = .ok (.iconst 0, 1) := by decide +kernel
theorem dJ7_fill_53178_1 : decode cJ7_fill_53178 1 = .ok (.istore_n 2, 1) := by decide +kernel
theorem dJ7_fill_53178_2 : decode cJ7_fill_53178 2 = .ok (.aload_n 0, 1) := by decide +kernel
theorem dJ7_fill_53178_3 : decode cJ7_fill_53178 3 = .ok (.arraylength, 1) := by decide +kernel
theorem dJ7_fill_53178_4 : decode cJ7_fill_53178 4 = .ok (.istore_n 3, 1) := by decide +kernel
theorem dJ7_fill_53178_5 : decode cJ7_fill_53178 5 = .ok (.iload_n 2, 1) := by decide +kernel
theorem dJ7_fill_53178_6 : decode cJ7_fill_53178 6 = .ok (.iload_n 3, 1) := by decide +kernel
theorem dJ7_fill_53178_7 : decode cJ7_fill_53178 7 = .ok (.if_icmp .ge 13, 3) := by decide +kernel
theorem dJ7_fill_53178_10 : decode cJ7_fill_53178 10 = .ok (.aload_n 0, 1) := by decide +kernel
theorem dJ7_fill_53178_11 : decode cJ7_fill_53178 11 = .ok (.iload_n 2, 1) := by decide +kernel
theorem dJ7_fill_53178_12 : decode cJ7_fill_53178 12 = .ok (.iload_n 1, 1) := by decide +kernel
theorem dJ7_fill_53178_13 : decode cJ7_fill_53178 13 = .ok (.iastore, 1) := by decide +kernel
theorem dJ7_fill_53178_14 : decode cJ7_fill_53178 14 = .ok (.iinc 2 1, 3) := by decide +kernel
theorem dJ7_fill_53178_17 : decode cJ7_fill_53178 17 = .ok (.goto (-12), 3) := by decide +kernel
theorem dJ7_fill_53178_20 : decode cJ7_fill_53178 20 = .ok (.return_, 1) := by decide +kernel
set_option maxRecDepth 20000 in
theorem ggL_law_X0_init : GoodIn wsL_law wsX0_init := goodIn_r _ [8, 9, 10, 11, 12, 13, 14, 15, 16, 17, 18, 19, 20, 21, 193, 194, 195, 196, 197, 198, 199, 200, 201] (by decide +kernel) (by decide +kernel)
set_option maxRecDepth 20000 in
theorem gL_law_X0_init : GoodIn wsL_law (wsX0_init) := ggL_law_X0_init
set_option maxRecDepth 20000 in
theorem ggL_law_X1_init : GoodIn wsL_law wsX1_init := goodIn_r _ [24, 25, 10, 11, 12, 26, 27, 28, 29, 30, 31, 32, 33, 34, 35, 36, 5, 37, 38, 39, 40, 202, 203, 204, 205, 206, 207, 208, 209, 210, 211] (by decide +kernel) (by decide +kernel)
set_option maxRecDepth 20000 in
theorem gL_law_X1_init : GoodIn wsL_law (wsX1_init) := ggL_law_X1_init
set_option maxRecDepth 20000 in
theorem ggL_law_X0_begin : GoodIn wsL_law wsX0_begin := goodIn_r _ [44, 19, 20, 13, 14, 15, 16, 21, 45, 46, 47, 48, 193, 194, 195, 196, 197, 198, 199, 200, 201] (by decide +kernel) (by decide +kernel)
set_option maxRecDepth 20000 in
theorem gL_law_X0_begin : GoodIn wsL_law (wsV RL 13 RX0 yX0_begin wsX0_begin) := goodIn_app (goodIn_of _ (by decide +kernel)) ggL_law_X0_begin
set_option maxRecDepth 20000 in
theorem ggL_law_X1_begin : GoodIn wsL_law wsX1_begin := goodIn_r _ [37, 38, 39, 26, 27, 28, 30, 40, 202, 203, 204, 205, 206, 207, 208, 209, 210, 211] (by decide +kernel) (by decide +kernel)
set_option maxRecDepth 20000 in
theorem gL_law_X1_begin : GoodIn wsL_law (wsV RL 17 RX1 yX1_begin wsX1_begin) := goodIn_app (goodIn_of _ (by decide +kernel)) ggL_law_X1_begin
set_option maxRecDepth 20000 in
theorem ggL_law_X0_cell : GoodIn wsL_law wsX0_cell := goodIn_r _ [53, 20, 13, 14, 15, 21, 54, 55, 56, 2, 57, 19, 58, 59, 60, 61, 62, 63, 64, 65, 66, 67, 68, 69, 193, 194, 195, 196, 197, 198, 199, 200, 201] (by decide +kernel) (by decide +kernel)
set_option maxRecDepth 20000 in
theorem gL_law_X0_cell : GoodIn wsL_law (wsV RL 18 RX0 yX0_cell wsX0_cell) := goodIn_app (goodIn_of _ (by decide +kernel)) ggL_law_X0_cell
set_option maxRecDepth 20000 in
theorem ggL_law_X1_cell : GoodIn wsL_law wsX1_cell := goodIn_r _ [73, 39, 26, 27, 28, 40, 74, 75, 76, 5, 77, 38, 78, 79, 80, 202, 203, 204, 205, 206, 207, 208, 209, 210, 211] (by decide +kernel) (by decide +kernel)
set_option maxRecDepth 20000 in
theorem gL_law_X1_cell : GoodIn wsL_law (wsV RL 22 RX1 yX1_cell wsX1_cell) := goodIn_app (goodIn_of _ (by decide +kernel)) ggL_law_X1_cell
set_option maxRecDepth 20000 in
theorem ggL_law_X0_link : GoodIn wsL_law wsX0_link := goodIn_r _ [84, 19, 20, 16, 21, 85, 86, 2, 87, 193, 194, 195, 196, 197, 198, 199, 200, 201] (by decide +kernel) (by decide +kernel)
set_option maxRecDepth 20000 in
theorem gL_law_X0_link : GoodIn wsL_law (wsV RL 23 RX0 yX0_link wsX0_link) := goodIn_app (goodIn_of _ (by decide +kernel)) ggL_law_X0_link
set_option maxRecDepth 20000 in
theorem ggL_law_X1_link : GoodIn wsL_law wsX1_link := goodIn_r _ [91, 38, 39, 30, 40, 202, 203, 204, 205, 206, 207, 208, 209, 210, 211] (by decide +kernel) (by decide +kernel)
set_option maxRecDepth 20000 in
theorem gL_law_X1_link : GoodIn wsL_law (wsV RL 27 RX1 yX1_link wsX1_link) := goodIn_app (goodIn_of _ (by decide +kernel)) ggL_law_X1_link
set_option maxRecDepth 20000 in
theorem ggL_law_X0_set : GoodIn wsL_law wsX0_set := goodIn_r _ [95, 18, 61, 62, 2, 63, 193, 194, 195, 196, 197, 198, 199, 200, 201] (by decide +kernel) (by decide +kernel)
set_option maxRecDepth 20000 in
theorem gL_law_X0_set : GoodIn wsL_law (wsV RL 28 RX0 yX0_set wsX0_set) := goodIn_app (goodIn_of _ (by decide +kernel)) ggL_law_X0_set
set_option maxRecDepth 20000 in
theorem ggL_law_X1_set : GoodIn wsL_law wsX1_set := goodIn_r _ [99, 31, 78, 79, 5, 80, 202, 203, 204, 205, 206, 207, 208, 209, 210, 211] (by decide +kernel) (by decide +kernel)
set_option maxRecDepth 20000 in
theorem gL_law_X1_set : GoodIn wsL_law (wsV RL 31 RX1 yX1_set wsX1_set) := goodIn_app (goodIn_of _ (by decide +kernel)) ggL_law_X1_set
set_option maxRecDepth 20000 in
theorem ggL_law_X0_get : GoodIn wsL_law wsX0_get := goodIn_r _ [103, 18, 61, 62, 2, 63, 193, 194, 195, 196, 197, 198, 199, 200, 201] (by decide +kernel) (by decide +kernel)
set_option maxRecDepth 20000 in
theorem gL_law_X0_get : GoodIn wsL_law (wsV RL 32 RX0 yX0_get wsX0_get) := goodIn_app (goodIn_of _ (by decide +kernel)) ggL_law_X0_get
set_option maxRecDepth 20000 in
theorem ggL_law_X1_get : GoodIn wsL_law wsX1_get := goodIn_r _ [107, 31, 78, 79, 5, 80, 202, 203, 204, 205, 206, 207, 208, 209, 210, 211] (by decide +kernel) (by decide +kernel)
set_option maxRecDepth 20000 in
theorem gL_law_X1_get : GoodIn wsL_law (wsV RL 36 RX1 yX1_get wsX1_get) := goodIn_app (goodIn_of _ (by decide +kernel)) ggL_law_X1_get
set_option maxRecDepth 20000 in
theorem ggL_law_X0_scan : GoodIn wsL_law wsX0_scan := goodIn_r _ [111, 19, 17, 20, 21, 85, 86, 2, 87, 112, 113, 114, 115, 18, 14, 13, 15, 67, 68, 69, 116, 117, 118, 119, 120, 121, 122, 16, 123, 124, 125, 126, 64, 65, 66, 127, 128, 129, 193, 194, 195, 196, 197, 198, 199, 200, 201] (by decide +kernel) (by decide +kernel)
set_option maxRecDepth 20000 in
theorem gL_law_X0_scan : GoodIn wsL_law (wsV RL 37 RX0 yX0_scan wsX0_scan) := goodIn_app (goodIn_of _ (by decide +kernel)) ggL_law_X0_scan
set_option maxRecDepth 20000 in
theorem ggL_law_X1_scan : GoodIn wsL_law wsX1_scan := goodIn_r _ [133, 32, 31, 38, 33, 39, 28, 27, 40, 134, 135, 136, 5, 137, 26, 138, 139, 140, 141, 30, 142, 143, 144, 145, 202, 203, 204, 205, 206, 207, 208, 209, 210, 211] (by decide +kernel) (by decide +kernel)
set_option maxRecDepth 20000 in
theorem gL_law_X1_scan : GoodIn wsL_law (wsV RL 41 RX1 yX1_scan wsX1_scan) := goodIn_app (goodIn_of _ (by decide +kernel)) ggL_law_X1_scan
set_option maxRecDepth 20000 in
theorem ggL_law_X0_power : GoodIn wsL_law wsX0_power := goodIn_r _ [149, 21, 20, 13, 17, 54, 55, 56, 2, 57, 19, 150, 151, 152, 153, 67, 68, 69, 64, 65, 66, 85, 86, 87, 193, 194, 195, 196, 197, 198, 199, 200, 201] (by decide +kernel) (by decide +kernel)
set_option maxRecDepth 20000 in
theorem gL_law_X0_power : GoodIn wsL_law (wsV RL 42 RX0 yX0_power wsX0_power) := goodIn_app (goodIn_of _ (by decide +kernel)) ggL_law_X0_power
set_option maxRecDepth 20000 in
theorem ggL_law_X1_power : GoodIn wsL_law wsX1_power := goodIn_r _ [157, 38, 39, 40, 26, 33, 202, 203, 204, 205, 206, 207, 208, 209, 210, 211] (by decide +kernel) (by decide +kernel)
set_option maxRecDepth 20000 in
theorem gL_law_X1_power : GoodIn wsL_law (wsV RL 45 RX1 yX1_power wsX1_power) := goodIn_app (goodIn_of _ (by decide +kernel)) ggL_law_X1_power
set_option maxRecDepth 20000 in
theorem ggL_law_X0_steps : GoodIn wsL_law wsX0_steps := goodIn_r _ [161, 20, 162, 163, 164, 2, 165, 19, 13, 166, 16, 67, 68, 69, 64, 65, 66, 85, 86, 87, 167, 168, 169, 170, 171, 172, 173, 193, 194, 195, 196, 197, 198, 199, 200, 201] (by decide +kernel) (by decide +kernel)
set_option maxRecDepth 20000 in
theorem gL_law_X0_steps : GoodIn wsL_law (wsV RL 46 RX0 yX0_steps wsX0_steps) := goodIn_app (goodIn_of _ (by decide +kernel)) ggL_law_X0_steps
set_option maxRecDepth 20000 in
theorem ggL_law_X1_steps : GoodIn wsL_law wsX1_steps := goodIn_r _ [177, 39, 38, 26, 178, 179, 180, 5, 181, 30, 182, 183, 184, 202, 203, 204, 205, 206, 207, 208, 209, 210, 211] (by decide +kernel) (by decide +kernel)
set_option maxRecDepth 20000 in
theorem gL_law_X1_steps : GoodIn wsL_law (wsV RL 49 RX1 yX1_steps wsX1_steps) := goodIn_app (goodIn_of _ (by decide +kernel)) ggL_law_X1_steps
set_option maxRecDepth 20000 in
theorem ggL_law_X0_groups : GoodIn wsL_law wsX0_groups := goodIn_r _ [188, 19, 16, 150, 151, 152, 2, 153, 20, 85, 86, 87, 193, 194, 195, 196, 197, 198, 199, 200, 201] (by decide +kernel) (by decide +kernel)
set_option maxRecDepth 20000 in
theorem gL_law_X0_groups : GoodIn wsL_law (wsV RL 50 RX0 yX0_groups wsX0_groups) := goodIn_app (goodIn_of _ (by decide +kernel)) ggL_law_X0_groups
set_option maxRecDepth 20000 in
theorem ggL_law_X1_groups : GoodIn wsL_law wsX1_groups := goodIn_r _ [192, 39, 38, 30, 202, 203, 204, 205, 206, 207, 208, 209, 210, 211] (by decide +kernel) (by decide +kernel)
set_option maxRecDepth 20000 in
theorem gL_law_X1_groups : GoodIn wsL_law (wsV RL 53 RX1 yX1_groups wsX1_groups) := goodIn_app (goodIn_of _ (by decide +kernel)) ggL_law_X1_groups
theorem dL_law_0 : decode cL_law 0 = .ok (.new 7, 3) := by decide +kernel
theorem dL_law_3 : decode cL_law 3 = .ok (.dup, 1) := by decide +kernel
theorem dL_law_4 : decode cL_law 4 = .ok (.invokespecial 9, 3) := by decide +kernel
theorem dL_law_7 : decode cL_law 7 = .ok (.astore_n 1, 1) := by decide +kernel
theorem dL_law_8 : decode cL_law 8 = .ok (.new 10, 3) := by decide +kernel
theorem dL_law_11 : decode cL_law 11 = .ok (.dup, 1) := by decide +kernel
theorem dL_law_12 : decode cL_law 12 = .ok (.invokespecial 12, 3) := by decide +kernel
theorem dL_law_15 : decode cL_law 15 = .ok (.astore_n 2, 1) := by decide +kernel
theorem dL_law_16 : decode cL_law 16 = .ok (.iconst 0, 1) := by decide +kernel
theorem dL_law_17 : decode cL_law 17 = .ok (.istore_n 3, 1) := by decide +kernel
theorem dL_law_18 : decode cL_law 18 = .ok (.iload_n 3, 1) := by decide +kernel
theorem dL_law_19 : decode cL_law 19 = .ok (.aload_n 0, 1) := by decide +kernel
theorem dL_law_20 : decode cL_law 20 = .ok (.arraylength, 1) := by decide +kernel
theorem dL_law_21 : decode cL_law 21 = .ok (.iconst 5, 1) := by decide +kernel
theorem dL_law_22 : decode cL_law 22 = .ok (.isub, 1) := by decide +kernel
theorem dL_law_23 : decode cL_law 23 = .ok (.if_icmp .gt 350, 3) := by decide +kernel
theorem dL_law_26 : decode cL_law 26 = .ok (.aload_n 0, 1) := by decide +kernel
theorem dL_law_27 : decode cL_law 27 = .ok (.iload_n 3, 1) := by decide +kernel
theorem dL_law_28 : decode cL_law 28 = .ok (.iaload, 1) := by decide +kernel
theorem dL_law_29 : decode cL_law 29 = .ok (.bipush 15, 2) := by decide +kernel
theorem dL_law_31 : decode cL_law 31 = .ok (.iand, 1) := by decide +kernel
theorem dL_law_32 : decode cL_law 32 = .ok (.tableswitch 335 0 8 #[52, 85, 138, 197, 230, 253, 266, 299, 312], 52) := by decide +kernel
theorem dL_law_84 : decode cL_law 84 = .ok (.aload_n 1, 1) := by decide +kernel
theorem dL_law_85 : decode cL_law 85 = .ok (.aload_n 0, 1) := by decide +kernel
theorem dL_law_86 : decode cL_law 86 = .ok (.iload_n 3, 1) := by decide +kernel
theorem dL_law_87 : decode cL_law 87 = .ok (.iconst 1, 1) := by decide +kernel
theorem dL_law_88 : decode cL_law 88 = .ok (.iadd, 1) := by decide +kernel
theorem dL_law_89 : decode cL_law 89 = .ok (.iaload, 1) := by decide +kernel
theorem dL_law_90 : decode cL_law 90 = .ok (.aload_n 0, 1) := by decide +kernel
theorem dL_law_91 : decode cL_law 91 = .ok (.iload_n 3, 1) := by decide +kernel
theorem dL_law_92 : decode cL_law 92 = .ok (.iconst 2, 1) := by decide +kernel
theorem dL_law_93 : decode cL_law 93 = .ok (.iadd, 1) := by decide +kernel
theorem dL_law_94 : decode cL_law 94 = .ok (.iaload, 1) := by decide +kernel
theorem dL_law_95 : decode cL_law 95 = .ok (.invokevirtual 13, 3) := by decide +kernel
theorem dL_law_98 : decode cL_law 98 = .ok (.aload_n 2, 1) := by decide +kernel
theorem dL_law_99 : decode cL_law 99 = .ok (.aload_n 0, 1) := by decide +kernel
theorem dL_law_100 : decode cL_law 100 = .ok (.iload_n 3, 1) := by decide +kernel
theorem dL_law_101 : decode cL_law 101 = .ok (.iconst 1, 1) := by decide +kernel
theorem dL_law_102 : decode cL_law 102 = .ok (.iadd, 1) := by decide +kernel
theorem dL_law_103 : decode cL_law 103 = .ok (.iaload, 1) := by decide +kernel
theorem dL_law_104 : decode cL_law 104 = .ok (.aload_n 0, 1) := by decide +kernel
theorem dL_law_105 : decode cL_law 105 = .ok (.iload_n 3, 1) := by decide +kernel
theorem dL_law_106 : decode cL_law 106 = .ok (.iconst 2, 1) := by decide +kernel
theorem dL_law_107 : decode cL_law 107 = .ok (.iadd, 1) := by decide +kernel
theorem dL_law_108 : decode cL_law 108 = .ok (.iaload, 1) := by decide +kernel
theorem dL_law_109 : decode cL_law 109 = .ok (.invokevirtual 17, 3) := by decide +kernel
theorem dL_law_112 : decode cL_law 112 = .ok (.if_icmp .eq 255, 3) := by decide +kernel
theorem dL_law_115 : decode cL_law 115 = .ok (.iconst 0, 1) := by decide +kernel
theorem dL_law_116 : decode cL_law 116 = .ok (.ireturn, 1) := by decide +kernel
theorem dL_law_117 : decode cL_law 117 = .ok (.aload_n 1, 1) := by decide +kernel
theorem dL_law_118 : decode cL_law 118 = .ok (.aload_n 0, 1) := by decide +kernel
theorem dL_law_119 : decode cL_law 119 = .ok (.iload_n 3, 1) := by decide +kernel
theorem dL_law_120 : decode cL_law 120 = .ok (.iconst 1, 1) := by decide +kernel
theorem dL_law_121 : decode cL_law 121 = .ok (.iadd, 1) := by decide +kernel
theorem dL_law_122 : decode cL_law 122 = .ok (.iaload, 1) := by decide +kernel
theorem dL_law_123 : decode cL_law 123 = .ok (.aload_n 0, 1) := by decide +kernel
theorem dL_law_124 : decode cL_law 124 = .ok (.iload_n 3, 1) := by decide +kernel
theorem dL_law_125 : decode cL_law 125 = .ok (.iconst 2, 1) := by decide +kernel
theorem dL_law_126 : decode cL_law 126 = .ok (.iadd, 1) := by decide +kernel
theorem dL_law_127 : decode cL_law 127 = .ok (.iaload, 1) := by decide +kernel
theorem dL_law_128 : decode cL_law 128 = .ok (.aload_n 0, 1) := by decide +kernel
theorem dL_law_129 : decode cL_law 129 = .ok (.iload_n 3, 1) := by decide +kernel
theorem dL_law_130 : decode cL_law 130 = .ok (.iconst 3, 1) := by decide +kernel
theorem dL_law_131 : decode cL_law 131 = .ok (.iadd, 1) := by decide +kernel
theorem dL_law_132 : decode cL_law 132 = .ok (.iaload, 1) := by decide +kernel
theorem dL_law_133 : decode cL_law 133 = .ok (.aload_n 0, 1) := by decide +kernel
theorem dL_law_134 : decode cL_law 134 = .ok (.iload_n 3, 1) := by decide +kernel
theorem dL_law_135 : decode cL_law 135 = .ok (.iconst 4, 1) := by decide +kernel
theorem dL_law_136 : decode cL_law 136 = .ok (.iadd, 1) := by decide +kernel
theorem dL_law_137 : decode cL_law 137 = .ok (.iaload, 1) := by decide +kernel
theorem dL_law_138 : decode cL_law 138 = .ok (.invokevirtual 18, 3) := by decide +kernel
theorem dL_law_141 : decode cL_law 141 = .ok (.aload_n 2, 1) := by decide +kernel
theorem dL_law_142 : decode cL_law 142 = .ok (.aload_n 0, 1) := by decide +kernel
theorem dL_law_143 : decode cL_law 143 = .ok (.iload_n 3, 1) := by decide +kernel
theorem dL_law_144 : decode cL_law 144 = .ok (.iconst 1, 1) := by decide +kernel
theorem dL_law_145 : decode cL_law 145 = .ok (.iadd, 1) := by decide +kernel
theorem dL_law_146 : decode cL_law 146 = .ok (.iaload, 1) := by decide +kernel
theorem dL_law_147 : decode cL_law 147 = .ok (.aload_n 0, 1) := by decide +kernel
theorem dL_law_148 : decode cL_law 148 = .ok (.iload_n 3, 1) := by decide +kernel
theorem dL_law_149 : decode cL_law 149 = .ok (.iconst 2, 1) := by decide +kernel
theorem dL_law_150 : decode cL_law 150 = .ok (.iadd, 1) := by decide +kernel
theorem dL_law_151 : decode cL_law 151 = .ok (.iaload, 1) := by decide +kernel
theorem dL_law_152 : decode cL_law 152 = .ok (.aload_n 0, 1) := by decide +kernel
theorem dL_law_153 : decode cL_law 153 = .ok (.iload_n 3, 1) := by decide +kernel
theorem dL_law_154 : decode cL_law 154 = .ok (.iconst 3, 1) := by decide +kernel
theorem dL_law_155 : decode cL_law 155 = .ok (.iadd, 1) := by decide +kernel
theorem dL_law_156 : decode cL_law 156 = .ok (.iaload, 1) := by decide +kernel
theorem dL_law_157 : decode cL_law 157 = .ok (.aload_n 0, 1) := by decide +kernel
theorem dL_law_158 : decode cL_law 158 = .ok (.iload_n 3, 1) := by decide +kernel
theorem dL_law_159 : decode cL_law 159 = .ok (.iconst 4, 1) := by decide +kernel
theorem dL_law_160 : decode cL_law 160 = .ok (.iadd, 1) := by decide +kernel
theorem dL_law_161 : decode cL_law 161 = .ok (.iaload, 1) := by decide +kernel
theorem dL_law_162 : decode cL_law 162 = .ok (.invokevirtual 22, 3) := by decide +kernel
theorem dL_law_165 : decode cL_law 165 = .ok (.if_icmp .eq 202, 3) := by decide +kernel
theorem dL_law_168 : decode cL_law 168 = .ok (.iconst 0, 1) := by decide +kernel
theorem dL_law_169 : decode cL_law 169 = .ok (.ireturn, 1) := by decide +kernel
theorem dL_law_170 : decode cL_law 170 = .ok (.aload_n 1, 1) := by decide +kernel
theorem dL_law_171 : decode cL_law 171 = .ok (.aload_n 0, 1) := by decide +kernel
theorem dL_law_172 : decode cL_law 172 = .ok (.iload_n 3, 1) := by decide +kernel
theorem dL_law_173 : decode cL_law 173 = .ok (.iconst 1, 1) := by decide +kernel
theorem dL_law_174 : decode cL_law 174 = .ok (.iadd, 1) := by decide +kernel
theorem dL_law_175 : decode cL_law 175 = .ok (.iaload, 1) := by decide +kernel
theorem dL_law_176 : decode cL_law 176 = .ok (.aload_n 0, 1) := by decide +kernel
theorem dL_law_177 : decode cL_law 177 = .ok (.iload_n 3, 1) := by decide +kernel
theorem dL_law_178 : decode cL_law 178 = .ok (.iconst 2, 1) := by decide +kernel
theorem dL_law_179 : decode cL_law 179 = .ok (.iadd, 1) := by decide +kernel
theorem dL_law_180 : decode cL_law 180 = .ok (.iaload, 1) := by decide +kernel
theorem dL_law_181 : decode cL_law 181 = .ok (.aload_n 0, 1) := by decide +kernel
theorem dL_law_182 : decode cL_law 182 = .ok (.iload_n 3, 1) := by decide +kernel
theorem dL_law_183 : decode cL_law 183 = .ok (.iconst 3, 1) := by decide +kernel
theorem dL_law_184 : decode cL_law 184 = .ok (.iadd, 1) := by decide +kernel
theorem dL_law_185 : decode cL_law 185 = .ok (.iaload, 1) := by decide +kernel
theorem dL_law_186 : decode cL_law 186 = .ok (.ifCond .eq 7, 3) := by decide +kernel
theorem dL_law_189 : decode cL_law 189 = .ok (.iconst 1, 1) := by decide +kernel
theorem dL_law_190 : decode cL_law 190 = .ok (.goto 4, 3) := by decide +kernel
theorem dL_law_193 : decode cL_law 193 = .ok (.iconst 0, 1) := by decide +kernel
theorem dL_law_194 : decode cL_law 194 = .ok (.invokevirtual 23, 3) := by decide +kernel
theorem dL_law_197 : decode cL_law 197 = .ok (.aload_n 2, 1) := by decide +kernel
theorem dL_law_198 : decode cL_law 198 = .ok (.aload_n 0, 1) := by decide +kernel
theorem dL_law_199 : decode cL_law 199 = .ok (.iload_n 3, 1) := by decide +kernel
theorem dL_law_200 : decode cL_law 200 = .ok (.iconst 1, 1) := by decide +kernel
theorem dL_law_201 : decode cL_law 201 = .ok (.iadd, 1) := by decide +kernel
theorem dL_law_202 : decode cL_law 202 = .ok (.iaload, 1) := by decide +kernel
theorem dL_law_203 : decode cL_law 203 = .ok (.aload_n 0, 1) := by decide +kernel
theorem dL_law_204 : decode cL_law 204 = .ok (.iload_n 3, 1) := by decide +kernel
theorem dL_law_205 : decode cL_law 205 = .ok (.iconst 2, 1) := by decide +kernel
theorem dL_law_206 : decode cL_law 206 = .ok (.iadd, 1) := by decide +kernel
theorem dL_law_207 : decode cL_law 207 = .ok (.iaload, 1) := by decide +kernel
theorem dL_law_208 : decode cL_law 208 = .ok (.aload_n 0, 1) := by decide +kernel
theorem dL_law_209 : decode cL_law 209 = .ok (.iload_n 3, 1) := by decide +kernel
theorem dL_law_210 : decode cL_law 210 = .ok (.iconst 3, 1) := by decide +kernel
theorem dL_law_211 : decode cL_law 211 = .ok (.iadd, 1) := by decide +kernel
theorem dL_law_212 : decode cL_law 212 = .ok (.iaload, 1) := by decide +kernel
theorem dL_law_213 : decode cL_law 213 = .ok (.ifCond .eq 7, 3) := by decide +kernel
theorem dL_law_216 : decode cL_law 216 = .ok (.iconst 1, 1) := by decide +kernel
theorem dL_law_217 : decode cL_law 217 = .ok (.goto 4, 3) := by decide +kernel
theorem dL_law_220 : decode cL_law 220 = .ok (.iconst 0, 1) := by decide +kernel
theorem dL_law_221 : decode cL_law 221 = .ok (.invokevirtual 27, 3) := by decide +kernel
theorem dL_law_224 : decode cL_law 224 = .ok (.if_icmp .eq 143, 3) := by decide +kernel
theorem dL_law_227 : decode cL_law 227 = .ok (.iconst 0, 1) := by decide +kernel
theorem dL_law_228 : decode cL_law 228 = .ok (.ireturn, 1) := by decide +kernel
theorem dL_law_229 : decode cL_law 229 = .ok (.aload_n 1, 1) := by decide +kernel
theorem dL_law_230 : decode cL_law 230 = .ok (.aload_n 0, 1) := by decide +kernel
theorem dL_law_231 : decode cL_law 231 = .ok (.iload_n 3, 1) := by decide +kernel
theorem dL_law_232 : decode cL_law 232 = .ok (.iconst 1, 1) := by decide +kernel
theorem dL_law_233 : decode cL_law 233 = .ok (.iadd, 1) := by decide +kernel
theorem dL_law_234 : decode cL_law 234 = .ok (.iaload, 1) := by decide +kernel
theorem dL_law_235 : decode cL_law 235 = .ok (.aload_n 0, 1) := by decide +kernel
theorem dL_law_236 : decode cL_law 236 = .ok (.iload_n 3, 1) := by decide +kernel
theorem dL_law_237 : decode cL_law 237 = .ok (.iconst 2, 1) := by decide +kernel
theorem dL_law_238 : decode cL_law 238 = .ok (.iadd, 1) := by decide +kernel
theorem dL_law_239 : decode cL_law 239 = .ok (.iaload, 1) := by decide +kernel
theorem dL_law_240 : decode cL_law 240 = .ok (.invokevirtual 28, 3) := by decide +kernel
theorem dL_law_243 : decode cL_law 243 = .ok (.aload_n 2, 1) := by decide +kernel
theorem dL_law_244 : decode cL_law 244 = .ok (.aload_n 0, 1) := by decide +kernel
theorem dL_law_245 : decode cL_law 245 = .ok (.iload_n 3, 1) := by decide +kernel
theorem dL_law_246 : decode cL_law 246 = .ok (.iconst 1, 1) := by decide +kernel
theorem dL_law_247 : decode cL_law 247 = .ok (.iadd, 1) := by decide +kernel
theorem dL_law_248 : decode cL_law 248 = .ok (.iaload, 1) := by decide +kernel
theorem dL_law_249 : decode cL_law 249 = .ok (.aload_n 0, 1) := by decide +kernel
theorem dL_law_250 : decode cL_law 250 = .ok (.iload_n 3, 1) := by decide +kernel
theorem dL_law_251 : decode cL_law 251 = .ok (.iconst 2, 1) := by decide +kernel
theorem dL_law_252 : decode cL_law 252 = .ok (.iadd, 1) := by decide +kernel
theorem dL_law_253 : decode cL_law 253 = .ok (.iaload, 1) := by decide +kernel
theorem dL_law_254 : decode cL_law 254 = .ok (.invokevirtual 31, 3) := by decide +kernel
theorem dL_law_257 : decode cL_law 257 = .ok (.if_icmp .eq 110, 3) := by decide +kernel
theorem dL_law_260 : decode cL_law 260 = .ok (.iconst 0, 1) := by decide +kernel
theorem dL_law_261 : decode cL_law 261 = .ok (.ireturn, 1) := by decide +kernel
theorem dL_law_262 : decode cL_law 262 = .ok (.aload_n 1, 1) := by decide +kernel
theorem dL_law_263 : decode cL_law 263 = .ok (.aload_n 0, 1) := by decide +kernel
theorem dL_law_264 : decode cL_law 264 = .ok (.iload_n 3, 1) := by decide +kernel
theorem dL_law_265 : decode cL_law 265 = .ok (.iconst 1, 1) := by decide +kernel
theorem dL_law_266 : decode cL_law 266 = .ok (.iadd, 1) := by decide +kernel
theorem dL_law_267 : decode cL_law 267 = .ok (.iaload, 1) := by decide +kernel
theorem dL_law_268 : decode cL_law 268 = .ok (.invokevirtual 32, 3) := by decide +kernel
theorem dL_law_271 : decode cL_law 271 = .ok (.aload_n 2, 1) := by decide +kernel
theorem dL_law_272 : decode cL_law 272 = .ok (.aload_n 0, 1) := by decide +kernel
theorem dL_law_273 : decode cL_law 273 = .ok (.iload_n 3, 1) := by decide +kernel
theorem dL_law_274 : decode cL_law 274 = .ok (.iconst 1, 1) := by decide +kernel
theorem dL_law_275 : decode cL_law 275 = .ok (.iadd, 1) := by decide +kernel
theorem dL_law_276 : decode cL_law 276 = .ok (.iaload, 1) := by decide +kernel
theorem dL_law_277 : decode cL_law 277 = .ok (.invokevirtual 36, 3) := by decide +kernel
theorem dL_law_280 : decode cL_law 280 = .ok (.if_icmp .eq 87, 3) := by decide +kernel
theorem dL_law_283 : decode cL_law 283 = .ok (.iconst 0, 1) := by decide +kernel
theorem dL_law_284 : decode cL_law 284 = .ok (.ireturn, 1) := by decide +kernel
theorem dL_law_285 : decode cL_law 285 = .ok (.aload_n 1, 1) := by decide +kernel
theorem dL_law_286 : decode cL_law 286 = .ok (.invokevirtual 37, 3) := by decide +kernel
theorem dL_law_289 : decode cL_law 289 = .ok (.aload_n 2, 1) := by decide +kernel
theorem dL_law_290 : decode cL_law 290 = .ok (.invokevirtual 41, 3) := by decide +kernel
theorem dL_law_293 : decode cL_law 293 = .ok (.if_icmp .eq 74, 3) := by decide +kernel
theorem dL_law_296 : decode cL_law 296 = .ok (.iconst 0, 1) := by decide +kernel
theorem dL_law_297 : decode cL_law 297 = .ok (.ireturn, 1) := by decide +kernel
theorem dL_law_298 : decode cL_law 298 = .ok (.aload_n 1, 1) := by decide +kernel
theorem dL_law_299 : decode cL_law 299 = .ok (.aload_n 0, 1) := by decide +kernel
theorem dL_law_300 : decode cL_law 300 = .ok (.iload_n 3, 1) := by decide +kernel
theorem dL_law_301 : decode cL_law 301 = .ok (.iconst 1, 1) := by decide +kernel
theorem dL_law_302 : decode cL_law 302 = .ok (.iadd, 1) := by decide +kernel
theorem dL_law_303 : decode cL_law 303 = .ok (.iaload, 1) := by decide +kernel
theorem dL_law_304 : decode cL_law 304 = .ok (.aload_n 0, 1) := by decide +kernel
theorem dL_law_305 : decode cL_law 305 = .ok (.iload_n 3, 1) := by decide +kernel
theorem dL_law_306 : decode cL_law 306 = .ok (.iconst 2, 1) := by decide +kernel
theorem dL_law_307 : decode cL_law 307 = .ok (.iadd, 1) := by decide +kernel
theorem dL_law_308 : decode cL_law 308 = .ok (.iaload, 1) := by decide +kernel
theorem dL_law_309 : decode cL_law 309 = .ok (.invokevirtual 42, 3) := by decide +kernel
theorem dL_law_312 : decode cL_law 312 = .ok (.aload_n 2, 1) := by decide +kernel
theorem dL_law_313 : decode cL_law 313 = .ok (.aload_n 0, 1) := by decide +kernel
theorem dL_law_314 : decode cL_law 314 = .ok (.iload_n 3, 1) := by decide +kernel
theorem dL_law_315 : decode cL_law 315 = .ok (.iconst 1, 1) := by decide +kernel
theorem dL_law_316 : decode cL_law 316 = .ok (.iadd, 1) := by decide +kernel
theorem dL_law_317 : decode cL_law 317 = .ok (.iaload, 1) := by decide +kernel
theorem dL_law_318 : decode cL_law 318 = .ok (.aload_n 0, 1) := by decide +kernel
theorem dL_law_319 : decode cL_law 319 = .ok (.iload_n 3, 1) := by decide +kernel
theorem dL_law_320 : decode cL_law 320 = .ok (.iconst 2, 1) := by decide +kernel
theorem dL_law_321 : decode cL_law 321 = .ok (.iadd, 1) := by decide +kernel
theorem dL_law_322 : decode cL_law 322 = .ok (.iaload, 1) := by decide +kernel
theorem dL_law_323 : decode cL_law 323 = .ok (.invokevirtual 45, 3) := by decide +kernel
theorem dL_law_326 : decode cL_law 326 = .ok (.if_icmp .eq 41, 3) := by decide +kernel
theorem dL_law_329 : decode cL_law 329 = .ok (.iconst 0, 1) := by decide +kernel
theorem dL_law_330 : decode cL_law 330 = .ok (.ireturn, 1) := by decide +kernel
theorem dL_law_331 : decode cL_law 331 = .ok (.aload_n 1, 1) := by decide +kernel
theorem dL_law_332 : decode cL_law 332 = .ok (.invokevirtual 46, 3) := by decide +kernel
theorem dL_law_335 : decode cL_law 335 = .ok (.aload_n 2, 1) := by decide +kernel
theorem dL_law_336 : decode cL_law 336 = .ok (.invokevirtual 49, 3) := by decide +kernel
theorem dL_law_339 : decode cL_law 339 = .ok (.if_icmp .eq 28, 3) := by decide +kernel
theorem dL_law_342 : decode cL_law 342 = .ok (.iconst 0, 1) := by decide +kernel
theorem dL_law_343 : decode cL_law 343 = .ok (.ireturn, 1) := by decide +kernel
theorem dL_law_344 : decode cL_law 344 = .ok (.aload_n 1, 1) := by decide +kernel
theorem dL_law_345 : decode cL_law 345 = .ok (.aload_n 0, 1) := by decide +kernel
theorem dL_law_346 : decode cL_law 346 = .ok (.iload_n 3, 1) := by decide +kernel
theorem dL_law_347 : decode cL_law 347 = .ok (.iconst 1, 1) := by decide +kernel
theorem dL_law_348 : decode cL_law 348 = .ok (.iadd, 1) := by decide +kernel
theorem dL_law_349 : decode cL_law 349 = .ok (.iaload, 1) := by decide +kernel
theorem dL_law_350 : decode cL_law 350 = .ok (.invokevirtual 50, 3) := by decide +kernel
theorem dL_law_353 : decode cL_law 353 = .ok (.aload_n 2, 1) := by decide +kernel
theorem dL_law_354 : decode cL_law 354 = .ok (.aload_n 0, 1) := by decide +kernel
theorem dL_law_355 : decode cL_law 355 = .ok (.iload_n 3, 1) := by decide +kernel
theorem dL_law_356 : decode cL_law 356 = .ok (.iconst 1, 1) := by decide +kernel
theorem dL_law_357 : decode cL_law 357 = .ok (.iadd, 1) := by decide +kernel
theorem dL_law_358 : decode cL_law 358 = .ok (.iaload, 1) := by decide +kernel
theorem dL_law_359 : decode cL_law 359 = .ok (.invokevirtual 53, 3) := by decide +kernel
theorem dL_law_362 : decode cL_law 362 = .ok (.if_icmp .eq 5, 3) := by decide +kernel
theorem dL_law_365 : decode cL_law 365 = .ok (.iconst 0, 1) := by decide +kernel
theorem dL_law_366 : decode cL_law 366 = .ok (.ireturn, 1) := by decide +kernel
theorem dL_law_367 : decode cL_law 367 = .ok (.iinc 3 5, 3) := by decide +kernel
theorem dL_law_370 : decode cL_law 370 = .ok (.goto (-352), 3) := by decide +kernel
theorem dL_law_373 : decode cL_law 373 = .ok (.iconst 1, 1) := by decide +kernel
theorem dL_law_374 : decode cL_law 374 = .ok (.ireturn, 1) := by decide +kernel
abbrev vwCl : List vw_C := [(RX0, TX0, 9), (RX1, TX1, 10)]
