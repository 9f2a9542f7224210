/-! decode rows, by program (wip/whole/names.py) -/
theorem d_M_init_0 : decode c_M_init 0 = .ok (.aload_n 0, 1) := by decide +kernel
theorem d_M_init_1 : decode c_M_init 1 = .ok (.invokespecial 1, 3) := by decide +kernel
theorem d_M_init_4 : decode c_M_init 4 = .ok (.aload_n 0, 1) := by decide +kernel
theorem d_M_init_5 : decode c_M_init 5 = .ok (.bipush 14, 2) := by decide +kernel
theorem d_M_init_7 : decode c_M_init 7 = .ok (.newarray .int, 2) := by decide +kernel
theorem d_M_init_9 : decode c_M_init 9 = .ok (.putfield 7, 3) := by decide +kernel
theorem d_M_init_12 : decode c_M_init 12 = .ok (.aload_n 0, 1) := by decide +kernel
theorem d_M_init_13 : decode c_M_init 13 = .ok (.bipush 14, 2) := by decide +kernel
theorem d_M_init_15 : decode c_M_init 15 = .ok (.newarray .long, 2) := by decide +kernel
theorem d_M_init_17 : decode c_M_init 17 = .ok (.putfield 13, 3) := by decide +kernel
theorem d_M_init_20 : decode c_M_init 20 = .ok (.aload_n 0, 1) := by decide +kernel
theorem d_M_init_21 : decode c_M_init 21 = .ok (.iconst 2, 1) := by decide +kernel
theorem d_M_init_22 : decode c_M_init 22 = .ok (.newarray .boolean, 2) := by decide +kernel
theorem d_M_init_24 : decode c_M_init 24 = .ok (.putfield 17, 3) := by decide +kernel
theorem d_M_init_27 : decode c_M_init 27 = .ok (.aload_n 0, 1) := by decide +kernel
theorem d_M_init_28 : decode c_M_init 28 = .ok (.iconst 2, 1) := by decide +kernel
theorem d_M_init_29 : decode c_M_init 29 = .ok (.newarray .int, 2) := by decide +kernel
theorem d_M_init_31 : decode c_M_init 31 = .ok (.putfield 21, 3) := by decide +kernel
theorem d_M_init_34 : decode c_M_init 34 = .ok (.aload_n 0, 1) := by decide +kernel
theorem d_M_init_35 : decode c_M_init 35 = .ok (.iconst 2, 1) := by decide +kernel
theorem d_M_init_36 : decode c_M_init 36 = .ok (.newarray .int, 2) := by decide +kernel
theorem d_M_init_38 : decode c_M_init 38 = .ok (.putfield 24, 3) := by decide +kernel
theorem d_M_init_41 : decode c_M_init 41 = .ok (.aload_n 0, 1) := by decide +kernel
theorem d_M_init_42 : decode c_M_init 42 = .ok (.iconst 2, 1) := by decide +kernel
theorem d_M_init_43 : decode c_M_init 43 = .ok (.newarray .int, 2) := by decide +kernel
theorem d_M_init_45 : decode c_M_init 45 = .ok (.putfield 27, 3) := by decide +kernel
theorem d_M_init_48 : decode c_M_init 48 = .ok (.aload_n 0, 1) := by decide +kernel
theorem d_M_init_49 : decode c_M_init 49 = .ok (.iconst 2, 1) := by decide +kernel
theorem d_M_init_50 : decode c_M_init 50 = .ok (.newarray .int, 2) := by decide +kernel
theorem d_M_init_52 : decode c_M_init 52 = .ok (.putfield 30, 3) := by decide +kernel
theorem d_M_init_55 : decode c_M_init 55 = .ok (.aload_n 0, 1) := by decide +kernel
theorem d_M_init_56 : decode c_M_init 56 = .ok (.iconst 2, 1) := by decide +kernel
theorem d_M_init_57 : decode c_M_init 57 = .ok (.newarray .int, 2) := by decide +kernel
theorem d_M_init_59 : decode c_M_init 59 = .ok (.putfield 33, 3) := by decide +kernel
theorem d_M_init_62 : decode c_M_init 62 = .ok (.aload_n 0, 1) := by decide +kernel
theorem d_M_init_63 : decode c_M_init 63 = .ok (.iconst 2, 1) := by decide +kernel
theorem d_M_init_64 : decode c_M_init 64 = .ok (.newarray .int, 2) := by decide +kernel
theorem d_M_init_66 : decode c_M_init 66 = .ok (.putfield 36, 3) := by decide +kernel
theorem d_M_init_69 : decode c_M_init 69 = .ok (.aload_n 0, 1) := by decide +kernel
theorem d_M_init_70 : decode c_M_init 70 = .ok (.ldc 39, 2) := by decide +kernel
theorem d_M_init_72 : decode c_M_init 72 = .ok (.putfield 40, 3) := by decide +kernel
theorem d_M_init_75 : decode c_M_init 75 = .ok (.aload_n 0, 1) := by decide +kernel
theorem d_M_init_76 : decode c_M_init 76 = .ok (.bipush 24, 2) := by decide +kernel
theorem d_M_init_78 : decode c_M_init 78 = .ok (.newarray .char, 2) := by decide +kernel
theorem d_M_init_80 : decode c_M_init 80 = .ok (.putfield 44, 3) := by decide +kernel
theorem d_M_init_83 : decode c_M_init 83 = .ok (.aload_n 0, 1) := by decide +kernel
theorem d_M_init_84 : decode c_M_init 84 = .ok (.getfield 7, 3) := by decide +kernel
theorem d_M_init_87 : decode c_M_init 87 = .ok (.iconst 0, 1) := by decide +kernel
theorem d_M_init_88 : decode c_M_init 88 = .ok (.sipush 400, 3) := by decide +kernel
theorem d_M_init_91 : decode c_M_init 91 = .ok (.iastore, 1) := by decide +kernel
theorem d_M_init_92 : decode c_M_init 92 = .ok (.aload_n 0, 1) := by decide +kernel
theorem d_M_init_93 : decode c_M_init 93 = .ok (.getfield 7, 3) := by decide +kernel
theorem d_M_init_96 : decode c_M_init 96 = .ok (.iconst 1, 1) := by decide +kernel
theorem d_M_init_97 : decode c_M_init 97 = .ok (.iconst 4, 1) := by decide +kernel
theorem d_M_init_98 : decode c_M_init 98 = .ok (.iastore, 1) := by decide +kernel
theorem d_M_init_99 : decode c_M_init 99 = .ok (.aload_n 0, 1) := by decide +kernel
theorem d_M_init_100 : decode c_M_init 100 = .ok (.getfield 7, 3) := by decide +kernel
theorem d_M_init_103 : decode c_M_init 103 = .ok (.iconst 3, 1) := by decide +kernel
theorem d_M_init_104 : decode c_M_init 104 = .ok (.iconst 4, 1) := by decide +kernel
theorem d_M_init_105 : decode c_M_init 105 = .ok (.iastore, 1) := by decide +kernel
theorem d_M_init_106 : decode c_M_init 106 = .ok (.aload_n 0, 1) := by decide +kernel
theorem d_M_init_107 : decode c_M_init 107 = .ok (.getfield 7, 3) := by decide +kernel
theorem d_M_init_110 : decode c_M_init 110 = .ok (.iconst 4, 1) := by decide +kernel
theorem d_M_init_111 : decode c_M_init 111 = .ok (.iconst 4, 1) := by decide +kernel
theorem d_M_init_112 : decode c_M_init 112 = .ok (.iastore, 1) := by decide +kernel
theorem d_M_init_113 : decode c_M_init 113 = .ok (.aload_n 0, 1) := by decide +kernel
theorem d_M_init_114 : decode c_M_init 114 = .ok (.getfield 7, 3) := by decide +kernel
theorem d_M_init_117 : decode c_M_init 117 = .ok (.iconst 5, 1) := by decide +kernel
theorem d_M_init_118 : decode c_M_init 118 = .ok (.bipush 30, 2) := by decide +kernel
theorem d_M_init_120 : decode c_M_init 120 = .ok (.iastore, 1) := by decide +kernel
theorem d_M_init_121 : decode c_M_init 121 = .ok (.aload_n 0, 1) := by decide +kernel
theorem d_M_init_122 : decode c_M_init 122 = .ok (.getfield 7, 3) := by decide +kernel
theorem d_M_init_125 : decode c_M_init 125 = .ok (.bipush 6, 2) := by decide +kernel
theorem d_M_init_127 : decode c_M_init 127 = .ok (.sipush 2820, 3) := by decide +kernel
theorem d_M_init_130 : decode c_M_init 130 = .ok (.iastore, 1) := by decide +kernel
theorem d_M_init_131 : decode c_M_init 131 = .ok (.aload_n 0, 1) := by decide +kernel
theorem d_M_init_132 : decode c_M_init 132 = .ok (.getfield 7, 3) := by decide +kernel
theorem d_M_init_135 : decode c_M_init 135 = .ok (.bipush 7, 2) := by decide +kernel
theorem d_M_init_137 : decode c_M_init 137 = .ok (.sipush 4000, 3) := by decide +kernel
theorem d_M_init_140 : decode c_M_init 140 = .ok (.iastore, 1) := by decide +kernel
theorem d_M_init_141 : decode c_M_init 141 = .ok (.aload_n 0, 1) := by decide +kernel
theorem d_M_init_142 : decode c_M_init 142 = .ok (.getfield 7, 3) := by decide +kernel
theorem d_M_init_145 : decode c_M_init 145 = .ok (.bipush 8, 2) := by decide +kernel
theorem d_M_init_147 : decode c_M_init 147 = .ok (.sipush 400, 3) := by decide +kernel
theorem d_M_init_150 : decode c_M_init 150 = .ok (.iastore, 1) := by decide +kernel
theorem d_M_init_151 : decode c_M_init 151 = .ok (.iconst 0, 1) := by decide +kernel
theorem d_M_init_152 : decode c_M_init 152 = .ok (.istore_n 1, 1) := by decide +kernel
theorem d_M_init_153 : decode c_M_init 153 = .ok (.iload_n 1, 1) := by decide +kernel
theorem d_M_init_154 : decode c_M_init 154 = .ok (.bipush 9, 2) := by decide +kernel
theorem d_M_init_156 : decode c_M_init 156 = .ok (.if_icmp .ge 14, 3) := by decide +kernel
theorem d_M_init_159 : decode c_M_init 159 = .ok (.aload_n 0, 1) := by decide +kernel
theorem d_M_init_160 : decode c_M_init 160 = .ok (.iload_n 1, 1) := by decide +kernel
theorem d_M_init_161 : decode c_M_init 161 = .ok (.invokevirtual 48, 3) := by decide +kernel
theorem d_M_init_164 : decode c_M_init 164 = .ok (.iinc 1 1, 3) := by decide +kernel
theorem d_M_init_167 : decode c_M_init 167 = .ok (.goto (-14), 3) := by decide +kernel
theorem d_M_init_170 : decode c_M_init 170 = .ok (.return_, 1) := by decide +kernel
theorem d_M_before_0 : decode c_M_before 0 = .ok (.lconst 0, 1) := by decide +kernel
theorem d_M_before_1 : decode c_M_before 1 = .ok (.lstore 5, 2) := by decide +kernel
theorem d_M_before_3 : decode c_M_before 3 = .ok (.aload_n 0, 1) := by decide +kernel
theorem d_M_before_4 : decode c_M_before 4 = .ok (.iload_n 1, 1) := by decide +kernel
theorem d_M_before_5 : decode c_M_before 5 = .ok (.lload_n 2, 1) := by decide +kernel
theorem d_M_before_6 : decode c_M_before 6 = .ok (.invokevirtual 106, 3) := by decide +kernel
theorem d_M_before_9 : decode c_M_before 9 = .ok (.istore 7, 2) := by decide +kernel
theorem d_M_before_11 : decode c_M_before 11 = .ok (.iconst 0, 1) := by decide +kernel
theorem d_M_before_12 : decode c_M_before 12 = .ok (.istore 8, 2) := by decide +kernel
theorem d_M_before_14 : decode c_M_before 14 = .ok (.iload 8, 2) := by decide +kernel
theorem d_M_before_16 : decode c_M_before 16 = .ok (.iload 7, 2) := by decide +kernel
theorem d_M_before_18 : decode c_M_before 18 = .ok (.if_icmp .ge 45, 3) := by decide +kernel
theorem d_M_before_21 : decode c_M_before 21 = .ok (.aload_n 0, 1) := by decide +kernel
theorem d_M_before_22 : decode c_M_before 22 = .ok (.iload_n 1, 1) := by decide +kernel
theorem d_M_before_23 : decode c_M_before 23 = .ok (.lload_n 2, 1) := by decide +kernel
theorem d_M_before_24 : decode c_M_before 24 = .ok (.iload 8, 2) := by decide +kernel
theorem d_M_before_26 : decode c_M_before 26 = .ok (.invokevirtual 119, 3) := by decide +kernel
theorem d_M_before_29 : decode c_M_before 29 = .ok (.iload 4, 2) := by decide +kernel
theorem d_M_before_31 : decode c_M_before 31 = .ok (.if_icmp .ne 6, 3) := by decide +kernel
theorem d_M_before_34 : decode c_M_before 34 = .ok (.lload 5, 2) := by decide +kernel
theorem d_M_before_36 : decode c_M_before 36 = .ok (.lreturn, 1) := by decide +kernel
theorem d_M_before_37 : decode c_M_before 37 = .ok (.lload 5, 2) := by decide +kernel
theorem d_M_before_39 : decode c_M_before 39 = .ok (.aload_n 0, 1) := by decide +kernel
theorem d_M_before_40 : decode c_M_before 40 = .ok (.iload_n 1, 1) := by decide +kernel
theorem d_M_before_41 : decode c_M_before 41 = .ok (.lload_n 2, 1) := by decide +kernel
theorem d_M_before_42 : decode c_M_before 42 = .ok (.aload_n 0, 1) := by decide +kernel
theorem d_M_before_43 : decode c_M_before 43 = .ok (.iload_n 1, 1) := by decide +kernel
theorem d_M_before_44 : decode c_M_before 44 = .ok (.lload_n 2, 1) := by decide +kernel
theorem d_M_before_45 : decode c_M_before 45 = .ok (.iload 8, 2) := by decide +kernel
theorem d_M_before_47 : decode c_M_before 47 = .ok (.invokevirtual 119, 3) := by decide +kernel
theorem d_M_before_50 : decode c_M_before 50 = .ok (.invokevirtual 123, 3) := by decide +kernel
theorem d_M_before_53 : decode c_M_before 53 = .ok (.i2l, 1) := by decide +kernel
theorem d_M_before_54 : decode c_M_before 54 = .ok (.ladd, 1) := by decide +kernel
theorem d_M_before_55 : decode c_M_before 55 = .ok (.lstore 5, 2) := by decide +kernel
theorem d_M_before_57 : decode c_M_before 57 = .ok (.iinc 8 1, 3) := by decide +kernel
theorem d_M_before_60 : decode c_M_before 60 = .ok (.goto (-46), 3) := by decide +kernel
theorem d_M_before_63 : decode c_M_before 63 = .ok (.ldc2_w 241, 3) := by decide +kernel
theorem d_M_before_66 : decode c_M_before 66 = .ok (.lreturn, 1) := by decide +kernel
theorem d_M_countCycle_0 : decode c_M_countCycle 0 = .ok (.lconst 0, 1) := by decide +kernel
theorem d_M_countCycle_1 : decode c_M_countCycle 1 = .ok (.lstore_n 2, 1) := by decide +kernel
theorem d_M_countCycle_2 : decode c_M_countCycle 2 = .ok (.iconst 1, 1) := by decide +kernel
theorem d_M_countCycle_3 : decode c_M_countCycle 3 = .ok (.istore 4, 2) := by decide +kernel
theorem d_M_countCycle_5 : decode c_M_countCycle 5 = .ok (.iload 4, 2) := by decide +kernel
theorem d_M_countCycle_7 : decode c_M_countCycle 7 = .ok (.aload_n 0, 1) := by decide +kernel
theorem d_M_countCycle_8 : decode c_M_countCycle 8 = .ok (.getfield 7, 3) := by decide +kernel
theorem d_M_countCycle_11 : decode c_M_countCycle 11 = .ok (.iload_n 1, 1) := by decide +kernel
theorem d_M_countCycle_12 : decode c_M_countCycle 12 = .ok (.iaload, 1) := by decide +kernel
theorem d_M_countCycle_13 : decode c_M_countCycle 13 = .ok (.if_icmp .gt 34, 3) := by decide +kernel
theorem d_M_countCycle_16 : decode c_M_countCycle 16 = .ok (.lload_n 2, 1) := by decide +kernel
theorem d_M_countCycle_17 : decode c_M_countCycle 17 = .ok (.aload_n 0, 1) := by decide +kernel
theorem d_M_countCycle_18 : decode c_M_countCycle 18 = .ok (.iload_n 1, 1) := by decide +kernel
theorem d_M_countCycle_19 : decode c_M_countCycle 19 = .ok (.invokevirtual 130, 3) := by decide +kernel
theorem d_M_countCycle_22 : decode c_M_countCycle 22 = .ok (.ladd, 1) := by decide +kernel
theorem d_M_countCycle_23 : decode c_M_countCycle 23 = .ok (.aload_n 0, 1) := by decide +kernel
theorem d_M_countCycle_24 : decode c_M_countCycle 24 = .ok (.iload_n 1, 1) := by decide +kernel
theorem d_M_countCycle_25 : decode c_M_countCycle 25 = .ok (.iload 4, 2) := by decide +kernel
theorem d_M_countCycle_27 : decode c_M_countCycle 27 = .ok (.i2l, 1) := by decide +kernel
theorem d_M_countCycle_28 : decode c_M_countCycle 28 = .ok (.invokevirtual 102, 3) := by decide +kernel
theorem d_M_countCycle_31 : decode c_M_countCycle 31 = .ok (.ifCond .eq 7, 3) := by decide +kernel
theorem d_M_countCycle_34 : decode c_M_countCycle 34 = .ok (.lconst 1, 1) := by decide +kernel
theorem d_M_countCycle_35 : decode c_M_countCycle 35 = .ok (.goto 4, 3) := by decide +kernel
theorem d_M_countCycle_38 : decode c_M_countCycle 38 = .ok (.lconst 0, 1) := by decide +kernel
theorem d_M_countCycle_39 : decode c_M_countCycle 39 = .ok (.ladd, 1) := by decide +kernel
theorem d_M_countCycle_40 : decode c_M_countCycle 40 = .ok (.lstore_n 2, 1) := by decide +kernel
theorem d_M_countCycle_41 : decode c_M_countCycle 41 = .ok (.iinc 4 1, 3) := by decide +kernel
theorem d_M_countCycle_44 : decode c_M_countCycle 44 = .ok (.goto (-39), 3) := by decide +kernel
theorem d_M_countCycle_47 : decode c_M_countCycle 47 = .ok (.aload_n 0, 1) := by decide +kernel
theorem d_M_countCycle_48 : decode c_M_countCycle 48 = .ok (.getfield 13, 3) := by decide +kernel
theorem d_M_countCycle_51 : decode c_M_countCycle 51 = .ok (.iload_n 1, 1) := by decide +kernel
theorem d_M_countCycle_52 : decode c_M_countCycle 52 = .ok (.lload_n 2, 1) := by decide +kernel
theorem d_M_countCycle_53 : decode c_M_countCycle 53 = .ok (.lastore, 1) := by decide +kernel
theorem d_M_countCycle_54 : decode c_M_countCycle 54 = .ok (.return_, 1) := by decide +kernel
theorem d_M_counted_0 : decode c_M_counted 0 = .ok (.iload_n 0, 1) := by decide +kernel
theorem d_M_counted_1 : decode c_M_counted 1 = .ok (.invokestatic 59, 3) := by decide +kernel
theorem d_M_counted_4 : decode c_M_counted 4 = .ok (.ifCond .eq 15, 3) := by decide +kernel
theorem d_M_counted_7 : decode c_M_counted 7 = .ok (.lload_n 1, 1) := by decide +kernel
theorem d_M_counted_8 : decode c_M_counted 8 = .ok (.lconst 0, 1) := by decide +kernel
theorem d_M_counted_9 : decode c_M_counted 9 = .ok (.lcmp, 1) := by decide +kernel
theorem d_M_counted_10 : decode c_M_counted 10 = .ok (.ifCond .ge 9, 3) := by decide +kernel
theorem d_M_counted_13 : decode c_M_counted 13 = .ok (.lload_n 1, 1) := by decide +kernel
theorem d_M_counted_14 : decode c_M_counted 14 = .ok (.lconst 1, 1) := by decide +kernel
theorem d_M_counted_15 : decode c_M_counted 15 = .ok (.ladd, 1) := by decide +kernel
theorem d_M_counted_16 : decode c_M_counted 16 = .ok (.goto 4, 3) := by decide +kernel
theorem d_M_counted_19 : decode c_M_counted 19 = .ok (.lload_n 1, 1) := by decide +kernel
theorem d_M_counted_20 : decode c_M_counted 20 = .ok (.lreturn, 1) := by decide +kernel
theorem d_M_date_0 : decode c_M_date 0 = .ok (.aload_n 0, 1) := by decide +kernel
theorem d_M_date_1 : decode c_M_date 1 = .ok (.aload_n 0, 1) := by decide +kernel
theorem d_M_date_2 : decode c_M_date 2 = .ok (.iload_n 1, 1) := by decide +kernel
theorem d_M_date_3 : decode c_M_date 3 = .ok (.invokevirtual 269, 3) := by decide +kernel
theorem d_M_date_6 : decode c_M_date 6 = .ok (.ifCond .eq 12, 3) := by decide +kernel
theorem d_M_date_9 : decode c_M_date 9 = .ok (.iload_n 3, 1) := by decide +kernel
theorem d_M_date_10 : decode c_M_date 10 = .ok (.ifCond .lt 8, 3) := by decide +kernel
theorem d_M_date_13 : decode c_M_date 13 = .ok (.iload_n 3, 1) := by decide +kernel
theorem d_M_date_14 : decode c_M_date 14 = .ok (.iconst 2, 1) := by decide +kernel
theorem d_M_date_15 : decode c_M_date 15 = .ok (.if_icmp .le 7, 3) := by decide +kernel
theorem d_M_date_18 : decode c_M_date 18 = .ok (.iconst 1, 1) := by decide +kernel
theorem d_M_date_19 : decode c_M_date 19 = .ok (.goto 16, 3) := by decide +kernel
theorem d_M_date_22 : decode c_M_date 22 = .ok (.iload_n 2, 1) := by decide +kernel
theorem d_M_date_23 : decode c_M_date 23 = .ok (.i2l, 1) := by decide +kernel
theorem d_M_date_24 : decode c_M_date 24 = .ok (.invokestatic 272, 3) := by decide +kernel
theorem d_M_date_27 : decode c_M_date 27 = .ok (.ifCond .ne 7, 3) := by decide +kernel
theorem d_M_date_30 : decode c_M_date 30 = .ok (.iconst 2, 1) := by decide +kernel
theorem d_M_date_31 : decode c_M_date 31 = .ok (.goto 4, 3) := by decide +kernel
theorem d_M_date_34 : decode c_M_date 34 = .ok (.iconst 0, 1) := by decide +kernel
theorem d_M_date_35 : decode c_M_date 35 = .ok (.putfield 52, 3) := by decide +kernel
theorem d_M_date_38 : decode c_M_date 38 = .ok (.aload_n 0, 1) := by decide +kernel
theorem d_M_date_39 : decode c_M_date 39 = .ok (.getfield 52, 3) := by decide +kernel
theorem d_M_date_42 : decode c_M_date 42 = .ok (.ifCond .le 5, 3) := by decide +kernel
theorem d_M_date_45 : decode c_M_date 45 = .ok (.iconst 0, 1) := by decide +kernel
theorem d_M_date_46 : decode c_M_date 46 = .ok (.ireturn, 1) := by decide +kernel
theorem d_M_date_47 : decode c_M_date 47 = .ok (.aload_n 0, 1) := by decide +kernel
theorem d_M_date_48 : decode c_M_date 48 = .ok (.iload_n 1, 1) := by decide +kernel
theorem d_M_date_49 : decode c_M_date 49 = .ok (.iload_n 2, 1) := by decide +kernel
theorem d_M_date_50 : decode c_M_date 50 = .ok (.i2l, 1) := by decide +kernel
theorem d_M_date_51 : decode c_M_date 51 = .ok (.invokevirtual 243, 3) := by decide +kernel
theorem d_M_date_54 : decode c_M_date 54 = .ok (.iload_n 3, 1) := by decide +kernel
theorem d_M_date_55 : decode c_M_date 55 = .ok (.ifCond .ne 11, 3) := by decide +kernel
theorem d_M_date_58 : decode c_M_date 58 = .ok (.aload_n 0, 1) := by decide +kernel
theorem d_M_date_59 : decode c_M_date 59 = .ok (.getfield 212, 3) := by decide +kernel
theorem d_M_date_62 : decode c_M_date 62 = .ok (.l2i, 1) := by decide +kernel
theorem d_M_date_63 : decode c_M_date 63 = .ok (.goto 19, 3) := by decide +kernel
theorem d_M_date_66 : decode c_M_date 66 = .ok (.iload_n 3, 1) := by decide +kernel
theorem d_M_date_67 : decode c_M_date 67 = .ok (.iconst 1, 1) := by decide +kernel
theorem d_M_date_68 : decode c_M_date 68 = .ok (.if_icmp .ne 10, 3) := by decide +kernel
theorem d_M_date_71 : decode c_M_date 71 = .ok (.aload_n 0, 1) := by decide +kernel
theorem d_M_date_72 : decode c_M_date 72 = .ok (.getfield 217, 3) := by decide +kernel
theorem d_M_date_75 : decode c_M_date 75 = .ok (.goto 7, 3) := by decide +kernel
theorem d_M_date_78 : decode c_M_date 78 = .ok (.aload_n 0, 1) := by decide +kernel
theorem d_M_date_79 : decode c_M_date 79 = .ok (.getfield 222, 3) := by decide +kernel
theorem d_M_date_82 : decode c_M_date 82 = .ok (.ireturn, 1) := by decide +kernel
theorem d_M_dayOf_0 : decode c_M_dayOf 0 = .ok (.ldc2_w 250, 3) := by decide +kernel
theorem d_M_dayOf_3 : decode c_M_dayOf 3 = .ok (.lstore 5, 2) := by decide +kernel
theorem d_M_dayOf_5 : decode c_M_dayOf 5 = .ok (.iload_n 1, 1) := by decide +kernel
theorem d_M_dayOf_6 : decode c_M_dayOf 6 = .ok (.invokestatic 59, 3) := by decide +kernel
theorem d_M_dayOf_9 : decode c_M_dayOf 9 = .ok (.ifCond .eq 7, 3) := by decide +kernel
theorem d_M_dayOf_12 : decode c_M_dayOf 12 = .ok (.iload_n 2, 1) := by decide +kernel
theorem d_M_dayOf_13 : decode c_M_dayOf 13 = .ok (.ifCond .eq 9, 3) := by decide +kernel
theorem d_M_dayOf_16 : decode c_M_dayOf 16 = .ok (.iload 4, 2) := by decide +kernel
theorem d_M_dayOf_18 : decode c_M_dayOf 18 = .ok (.iconst 1, 1) := by decide +kernel
theorem d_M_dayOf_19 : decode c_M_dayOf 19 = .ok (.if_icmp .ge 6, 3) := by decide +kernel
theorem d_M_dayOf_22 : decode c_M_dayOf 22 = .ok (.lload 5, 2) := by decide +kernel
theorem d_M_dayOf_24 : decode c_M_dayOf 24 = .ok (.lreturn, 1) := by decide +kernel
theorem d_M_dayOf_25 : decode c_M_dayOf 25 = .ok (.iload_n 1, 1) := by decide +kernel
theorem d_M_dayOf_26 : decode c_M_dayOf 26 = .ok (.bipush 10, 2) := by decide +kernel
theorem d_M_dayOf_28 : decode c_M_dayOf 28 = .ok (.if_icmp .ne 67, 3) := by decide +kernel
theorem d_M_dayOf_31 : decode c_M_dayOf 31 = .ok (.iload_n 3, 1) := by decide +kernel
theorem d_M_dayOf_32 : decode c_M_dayOf 32 = .ok (.iconst 1, 1) := by decide +kernel
theorem d_M_dayOf_33 : decode c_M_dayOf 33 = .ok (.if_icmp .lt 16, 3) := by decide +kernel
theorem d_M_dayOf_36 : decode c_M_dayOf 36 = .ok (.iload_n 3, 1) := by decide +kernel
theorem d_M_dayOf_37 : decode c_M_dayOf 37 = .ok (.bipush 12, 2) := by decide +kernel
theorem d_M_dayOf_39 : decode c_M_dayOf 39 = .ok (.if_icmp .gt 10, 3) := by decide +kernel
theorem d_M_dayOf_42 : decode c_M_dayOf 42 = .ok (.iload 4, 2) := by decide +kernel
theorem d_M_dayOf_44 : decode c_M_dayOf 44 = .ok (.bipush 32, 2) := by decide +kernel
theorem d_M_dayOf_46 : decode c_M_dayOf 46 = .ok (.if_icmp .le 8, 3) := by decide +kernel
theorem d_M_dayOf_49 : decode c_M_dayOf 49 = .ok (.lload 5, 2) := by decide +kernel
theorem d_M_dayOf_51 : decode c_M_dayOf 51 = .ok (.goto 43, 3) := by decide +kernel
theorem d_M_dayOf_54 : decode c_M_dayOf 54 = .ok (.aload_n 0, 1) := by decide +kernel
theorem d_M_dayOf_55 : decode c_M_dayOf 55 = .ok (.bipush 10, 2) := by decide +kernel
theorem d_M_dayOf_57 : decode c_M_dayOf 57 = .ok (.iload_n 2, 1) := by decide +kernel
theorem d_M_dayOf_58 : decode c_M_dayOf 58 = .ok (.iload_n 3, 1) := by decide +kernel
theorem d_M_dayOf_59 : decode c_M_dayOf 59 = .ok (.iload 4, 2) := by decide +kernel
theorem d_M_dayOf_61 : decode c_M_dayOf 61 = .ok (.ldc2_w 210, 3) := by decide +kernel
theorem d_M_dayOf_64 : decode c_M_dayOf 64 = .ok (.iload_n 2, 1) := by decide +kernel
theorem d_M_dayOf_65 : decode c_M_dayOf 65 = .ok (.i2l, 1) := by decide +kernel
theorem d_M_dayOf_66 : decode c_M_dayOf 66 = .ok (.lmul, 1) := by decide +kernel
theorem d_M_dayOf_67 : decode c_M_dayOf 67 = .ok (.iload_n 3, 1) := by decide +kernel
theorem d_M_dayOf_68 : decode c_M_dayOf 68 = .ok (.i2l, 1) := by decide +kernel
theorem d_M_dayOf_69 : decode c_M_dayOf 69 = .ok (.ladd, 1) := by decide +kernel
theorem d_M_dayOf_70 : decode c_M_dayOf 70 = .ok (.lconst 1, 1) := by decide +kernel
theorem d_M_dayOf_71 : decode c_M_dayOf 71 = .ok (.lsub, 1) := by decide +kernel
theorem d_M_dayOf_72 : decode c_M_dayOf 72 = .ok (.ldc2_w 229, 3) := by decide +kernel
theorem d_M_dayOf_75 : decode c_M_dayOf 75 = .ok (.lmul, 1) := by decide +kernel
theorem d_M_dayOf_76 : decode c_M_dayOf 76 = .ok (.ldc2_w 225, 3) := by decide +kernel
theorem d_M_dayOf_79 : decode c_M_dayOf 79 = .ok (.invokestatic 55, 3) := by decide +kernel
theorem d_M_dayOf_82 : decode c_M_dayOf 82 = .ok (.ldc2_w 202, 3) := by decide +kernel
theorem d_M_dayOf_85 : decode c_M_dayOf 85 = .ok (.lsub, 1) := by decide +kernel
theorem d_M_dayOf_86 : decode c_M_dayOf 86 = .ok (.iload 4, 2) := by decide +kernel
theorem d_M_dayOf_88 : decode c_M_dayOf 88 = .ok (.i2l, 1) := by decide +kernel
theorem d_M_dayOf_89 : decode c_M_dayOf 89 = .ok (.ladd, 1) := by decide +kernel
theorem d_M_dayOf_90 : decode c_M_dayOf 90 = .ok (.iconst 3, 1) := by decide +kernel
theorem d_M_dayOf_91 : decode c_M_dayOf 91 = .ok (.invokevirtual 252, 3) := by decide +kernel
theorem d_M_dayOf_94 : decode c_M_dayOf 94 = .ok (.lreturn, 1) := by decide +kernel
theorem d_M_dayOf_95 : decode c_M_dayOf 95 = .ok (.iload_n 1, 1) := by decide +kernel
theorem d_M_dayOf_96 : decode c_M_dayOf 96 = .ok (.bipush 11, 2) := by decide +kernel
theorem d_M_dayOf_98 : decode c_M_dayOf 98 = .ok (.if_icmp .ne 83, 3) := by decide +kernel
theorem d_M_dayOf_101 : decode c_M_dayOf 101 = .ok (.iload_n 3, 1) := by decide +kernel
theorem d_M_dayOf_102 : decode c_M_dayOf 102 = .ok (.bipush 100, 2) := by decide +kernel
theorem d_M_dayOf_104 : decode c_M_dayOf 104 = .ok (.if_icmp .le 10, 3) := by decide +kernel
theorem d_M_dayOf_107 : decode c_M_dayOf 107 = .ok (.iload_n 3, 1) := by decide +kernel
theorem d_M_dayOf_108 : decode c_M_dayOf 108 = .ok (.bipush 100, 2) := by decide +kernel
theorem d_M_dayOf_110 : decode c_M_dayOf 110 = .ok (.isub, 1) := by decide +kernel
theorem d_M_dayOf_111 : decode c_M_dayOf 111 = .ok (.goto 4, 3) := by decide +kernel
theorem d_M_dayOf_114 : decode c_M_dayOf 114 = .ok (.iload_n 3, 1) := by decide +kernel
theorem d_M_dayOf_115 : decode c_M_dayOf 115 = .ok (.istore 7, 2) := by decide +kernel
theorem d_M_dayOf_117 : decode c_M_dayOf 117 = .ok (.iload 7, 2) := by decide +kernel
theorem d_M_dayOf_119 : decode c_M_dayOf 119 = .ok (.iconst 1, 1) := by decide +kernel
theorem d_M_dayOf_120 : decode c_M_dayOf 120 = .ok (.if_icmp .lt 17, 3) := by decide +kernel
theorem d_M_dayOf_123 : decode c_M_dayOf 123 = .ok (.iload 7, 2) := by decide +kernel
theorem d_M_dayOf_125 : decode c_M_dayOf 125 = .ok (.bipush 12, 2) := by decide +kernel
theorem d_M_dayOf_127 : decode c_M_dayOf 127 = .ok (.if_icmp .gt 10, 3) := by decide +kernel
theorem d_M_dayOf_130 : decode c_M_dayOf 130 = .ok (.iload 4, 2) := by decide +kernel
theorem d_M_dayOf_132 : decode c_M_dayOf 132 = .ok (.bipush 30, 2) := by decide +kernel
theorem d_M_dayOf_134 : decode c_M_dayOf 134 = .ok (.if_icmp .le 8, 3) := by decide +kernel
theorem d_M_dayOf_137 : decode c_M_dayOf 137 = .ok (.lload 5, 2) := by decide +kernel
theorem d_M_dayOf_139 : decode c_M_dayOf 139 = .ok (.goto 41, 3) := by decide +kernel
theorem d_M_dayOf_142 : decode c_M_dayOf 142 = .ok (.aload_n 0, 1) := by decide +kernel
theorem d_M_dayOf_143 : decode c_M_dayOf 143 = .ok (.bipush 11, 2) := by decide +kernel
theorem d_M_dayOf_145 : decode c_M_dayOf 145 = .ok (.iload_n 2, 1) := by decide +kernel
theorem d_M_dayOf_146 : decode c_M_dayOf 146 = .ok (.iload_n 3, 1) := by decide +kernel
theorem d_M_dayOf_147 : decode c_M_dayOf 147 = .ok (.iload 4, 2) := by decide +kernel
theorem d_M_dayOf_149 : decode c_M_dayOf 149 = .ok (.ldc2_w 210, 3) := by decide +kernel
theorem d_M_dayOf_152 : decode c_M_dayOf 152 = .ok (.iload_n 2, 1) := by decide +kernel
theorem d_M_dayOf_153 : decode c_M_dayOf 153 = .ok (.i2l, 1) := by decide +kernel
theorem d_M_dayOf_154 : decode c_M_dayOf 154 = .ok (.lmul, 1) := by decide +kernel
theorem d_M_dayOf_155 : decode c_M_dayOf 155 = .ok (.iload 7, 2) := by decide +kernel
theorem d_M_dayOf_157 : decode c_M_dayOf 157 = .ok (.i2l, 1) := by decide +kernel
theorem d_M_dayOf_158 : decode c_M_dayOf 158 = .ok (.ladd, 1) := by decide +kernel
theorem d_M_dayOf_159 : decode c_M_dayOf 159 = .ok (.lconst 1, 1) := by decide +kernel
theorem d_M_dayOf_160 : decode c_M_dayOf 160 = .ok (.lsub, 1) := by decide +kernel
theorem d_M_dayOf_161 : decode c_M_dayOf 161 = .ok (.ldc2_w 229, 3) := by decide +kernel
theorem d_M_dayOf_164 : decode c_M_dayOf 164 = .ok (.lmul, 1) := by decide +kernel
theorem d_M_dayOf_165 : decode c_M_dayOf 165 = .ok (.ldc2_w 225, 3) := by decide +kernel
theorem d_M_dayOf_168 : decode c_M_dayOf 168 = .ok (.invokestatic 55, 3) := by decide +kernel
theorem d_M_dayOf_171 : decode c_M_dayOf 171 = .ok (.ldc2_w 202, 3) := by decide +kernel
theorem d_M_dayOf_174 : decode c_M_dayOf 174 = .ok (.lsub, 1) := by decide +kernel
theorem d_M_dayOf_175 : decode c_M_dayOf 175 = .ok (.bipush 70, 2) := by decide +kernel
theorem d_M_dayOf_177 : decode c_M_dayOf 177 = .ok (.invokevirtual 252, 3) := by decide +kernel
theorem d_M_dayOf_180 : decode c_M_dayOf 180 = .ok (.lreturn, 1) := by decide +kernel
theorem d_M_dayOf_181 : decode c_M_dayOf 181 = .ok (.iload_n 1, 1) := by decide +kernel
theorem d_M_dayOf_182 : decode c_M_dayOf 182 = .ok (.iload_n 2, 1) := by decide +kernel
theorem d_M_dayOf_183 : decode c_M_dayOf 183 = .ok (.i2l, 1) := by decide +kernel
theorem d_M_dayOf_184 : decode c_M_dayOf 184 = .ok (.invokestatic 256, 3) := by decide +kernel
theorem d_M_dayOf_187 : decode c_M_dayOf 187 = .ok (.lstore 7, 2) := by decide +kernel
theorem d_M_dayOf_189 : decode c_M_dayOf 189 = .ok (.iload_n 1, 1) := by decide +kernel
theorem d_M_dayOf_190 : decode c_M_dayOf 190 = .ok (.iconst 2, 1) := by decide +kernel
theorem d_M_dayOf_191 : decode c_M_dayOf 191 = .ok (.if_icmp .ne 62, 3) := by decide +kernel
theorem d_M_dayOf_194 : decode c_M_dayOf 194 = .ok (.aload_n 0, 1) := by decide +kernel
theorem d_M_dayOf_195 : decode c_M_dayOf 195 = .ok (.iconst 2, 1) := by decide +kernel
theorem d_M_dayOf_196 : decode c_M_dayOf 196 = .ok (.lload 7, 2) := by decide +kernel
theorem d_M_dayOf_198 : decode c_M_dayOf 198 = .ok (.invokevirtual 191, 3) := by decide +kernel
theorem d_M_dayOf_201 : decode c_M_dayOf 201 = .ok (.ldc2_w 98, 3) := by decide +kernel
theorem d_M_dayOf_204 : decode c_M_dayOf 204 = .ok (.iload_n 3, 1) := by decide +kernel
theorem d_M_dayOf_205 : decode c_M_dayOf 205 = .ok (.i2l, 1) := by decide +kernel
theorem d_M_dayOf_206 : decode c_M_dayOf 206 = .ok (.lconst 1, 1) := by decide +kernel
theorem d_M_dayOf_207 : decode c_M_dayOf 207 = .ok (.lsub, 1) := by decide +kernel
theorem d_M_dayOf_208 : decode c_M_dayOf 208 = .ok (.lmul, 1) := by decide +kernel
theorem d_M_dayOf_209 : decode c_M_dayOf 209 = .ok (.ladd, 1) := by decide +kernel
theorem d_M_dayOf_210 : decode c_M_dayOf 210 = .ok (.iload 4, 2) := by decide +kernel
theorem d_M_dayOf_212 : decode c_M_dayOf 212 = .ok (.i2l, 1) := by decide +kernel
theorem d_M_dayOf_213 : decode c_M_dayOf 213 = .ok (.ladd, 1) := by decide +kernel
theorem d_M_dayOf_214 : decode c_M_dayOf 214 = .ok (.lconst 1, 1) := by decide +kernel
theorem d_M_dayOf_215 : decode c_M_dayOf 215 = .ok (.lsub, 1) := by decide +kernel
theorem d_M_dayOf_216 : decode c_M_dayOf 216 = .ok (.lstore 9, 2) := by decide +kernel
theorem d_M_dayOf_218 : decode c_M_dayOf 218 = .ok (.iload_n 3, 1) := by decide +kernel
theorem d_M_dayOf_219 : decode c_M_dayOf 219 = .ok (.iconst 1, 1) := by decide +kernel
theorem d_M_dayOf_220 : decode c_M_dayOf 220 = .ok (.if_icmp .lt 25, 3) := by decide +kernel
theorem d_M_dayOf_223 : decode c_M_dayOf 223 = .ok (.iload 4, 2) := by decide +kernel
theorem d_M_dayOf_225 : decode c_M_dayOf 225 = .ok (.bipush 7, 2) := by decide +kernel
theorem d_M_dayOf_227 : decode c_M_dayOf 227 = .ok (.if_icmp .gt 18, 3) := by decide +kernel
theorem d_M_dayOf_230 : decode c_M_dayOf 230 = .ok (.lload 9, 2) := by decide +kernel
theorem d_M_dayOf_232 : decode c_M_dayOf 232 = .ok (.aload_n 0, 1) := by decide +kernel
theorem d_M_dayOf_233 : decode c_M_dayOf 233 = .ok (.iconst 2, 1) := by decide +kernel
theorem d_M_dayOf_234 : decode c_M_dayOf 234 = .ok (.lload 7, 2) := by decide +kernel
theorem d_M_dayOf_236 : decode c_M_dayOf 236 = .ok (.lconst 1, 1) := by decide +kernel
theorem d_M_dayOf_237 : decode c_M_dayOf 237 = .ok (.ladd, 1) := by decide +kernel
theorem d_M_dayOf_238 : decode c_M_dayOf 238 = .ok (.invokevirtual 191, 3) := by decide +kernel
theorem d_M_dayOf_241 : decode c_M_dayOf 241 = .ok (.lcmp, 1) := by decide +kernel
theorem d_M_dayOf_242 : decode c_M_dayOf 242 = .ok (.ifCond .lt 8, 3) := by decide +kernel
theorem d_M_dayOf_245 : decode c_M_dayOf 245 = .ok (.lload 5, 2) := by decide +kernel
theorem d_M_dayOf_247 : decode c_M_dayOf 247 = .ok (.goto 5, 3) := by decide +kernel
theorem d_M_dayOf_250 : decode c_M_dayOf 250 = .ok (.lload 9, 2) := by decide +kernel
theorem d_M_dayOf_252 : decode c_M_dayOf 252 = .ok (.lreturn, 1) := by decide +kernel
theorem d_M_dayOf_253 : decode c_M_dayOf 253 = .ok (.aload_n 0, 1) := by decide +kernel
theorem d_M_dayOf_254 : decode c_M_dayOf 254 = .ok (.iload_n 1, 1) := by decide +kernel
theorem d_M_dayOf_255 : decode c_M_dayOf 255 = .ok (.lload 7, 2) := by decide +kernel
theorem d_M_dayOf_257 : decode c_M_dayOf 257 = .ok (.iload_n 3, 1) := by decide +kernel
theorem d_M_dayOf_258 : decode c_M_dayOf 258 = .ok (.invokevirtual 259, 3) := by decide +kernel
theorem d_M_dayOf_261 : decode c_M_dayOf 261 = .ok (.lstore 9, 2) := by decide +kernel
theorem d_M_dayOf_263 : decode c_M_dayOf 263 = .ok (.lload 9, 2) := by decide +kernel
theorem d_M_dayOf_265 : decode c_M_dayOf 265 = .ok (.lconst 0, 1) := by decide +kernel
theorem d_M_dayOf_266 : decode c_M_dayOf 266 = .ok (.lcmp, 1) := by decide +kernel
theorem d_M_dayOf_267 : decode c_M_dayOf 267 = .ok (.ifCond .lt 16, 3) := by decide +kernel
theorem d_M_dayOf_270 : decode c_M_dayOf 270 = .ok (.iload 4, 2) := by decide +kernel
theorem d_M_dayOf_272 : decode c_M_dayOf 272 = .ok (.aload_n 0, 1) := by decide +kernel
theorem d_M_dayOf_273 : decode c_M_dayOf 273 = .ok (.iload_n 1, 1) := by decide +kernel
theorem d_M_dayOf_274 : decode c_M_dayOf 274 = .ok (.lload 7, 2) := by decide +kernel
theorem d_M_dayOf_276 : decode c_M_dayOf 276 = .ok (.iload_n 3, 1) := by decide +kernel
theorem d_M_dayOf_277 : decode c_M_dayOf 277 = .ok (.invokevirtual 123, 3) := by decide +kernel
theorem d_M_dayOf_280 : decode c_M_dayOf 280 = .ok (.if_icmp .le 8, 3) := by decide +kernel
theorem d_M_dayOf_283 : decode c_M_dayOf 283 = .ok (.lload 5, 2) := by decide +kernel
theorem d_M_dayOf_285 : decode c_M_dayOf 285 = .ok (.goto 19, 3) := by decide +kernel
theorem d_M_dayOf_288 : decode c_M_dayOf 288 = .ok (.aload_n 0, 1) := by decide +kernel
theorem d_M_dayOf_289 : decode c_M_dayOf 289 = .ok (.iload_n 1, 1) := by decide +kernel
theorem d_M_dayOf_290 : decode c_M_dayOf 290 = .ok (.lload 7, 2) := by decide +kernel
theorem d_M_dayOf_292 : decode c_M_dayOf 292 = .ok (.invokevirtual 191, 3) := by decide +kernel
theorem d_M_dayOf_295 : decode c_M_dayOf 295 = .ok (.lload 9, 2) := by decide +kernel
theorem d_M_dayOf_297 : decode c_M_dayOf 297 = .ok (.ladd, 1) := by decide +kernel
theorem d_M_dayOf_298 : decode c_M_dayOf 298 = .ok (.iload 4, 2) := by decide +kernel
theorem d_M_dayOf_300 : decode c_M_dayOf 300 = .ok (.i2l, 1) := by decide +kernel
theorem d_M_dayOf_301 : decode c_M_dayOf 301 = .ok (.ladd, 1) := by decide +kernel
theorem d_M_dayOf_302 : decode c_M_dayOf 302 = .ok (.lconst 1, 1) := by decide +kernel
theorem d_M_dayOf_303 : decode c_M_dayOf 303 = .ok (.lsub, 1) := by decide +kernel
theorem d_M_dayOf_304 : decode c_M_dayOf 304 = .ok (.lreturn, 1) := by decide +kernel
theorem d_M_div_0 : decode c_M_div 0 = .ok (.lload_n 0, 1) := by decide +kernel
theorem d_M_div_1 : decode c_M_div 1 = .ok (.lload_n 2, 1) := by decide +kernel
theorem d_M_div_2 : decode c_M_div 2 = .ok (.ldiv, 1) := by decide +kernel
theorem d_M_div_3 : decode c_M_div 3 = .ok (.lstore 4, 2) := by decide +kernel
theorem d_M_div_5 : decode c_M_div 5 = .ok (.lload 4, 2) := by decide +kernel
theorem d_M_div_7 : decode c_M_div 7 = .ok (.lload_n 2, 1) := by decide +kernel
theorem d_M_div_8 : decode c_M_div 8 = .ok (.lmul, 1) := by decide +kernel
theorem d_M_div_9 : decode c_M_div 9 = .ok (.lload_n 0, 1) := by decide +kernel
theorem d_M_div_10 : decode c_M_div 10 = .ok (.lcmp, 1) := by decide +kernel
theorem d_M_div_11 : decode c_M_div 11 = .ok (.ifCond .le 10, 3) := by decide +kernel
theorem d_M_div_14 : decode c_M_div 14 = .ok (.lload 4, 2) := by decide +kernel
theorem d_M_div_16 : decode c_M_div 16 = .ok (.lconst 1, 1) := by decide +kernel
theorem d_M_div_17 : decode c_M_div 17 = .ok (.lsub, 1) := by decide +kernel
theorem d_M_div_18 : decode c_M_div 18 = .ok (.goto 5, 3) := by decide +kernel
theorem d_M_div_21 : decode c_M_div 21 = .ok (.lload 4, 2) := by decide +kernel
theorem d_M_div_23 : decode c_M_div 23 = .ok (.lreturn, 1) := by decide +kernel
theorem d_M_epoch_0 : decode c_M_epoch 0 = .ok (.iload_n 1, 1) := by decide +kernel
theorem d_M_epoch_1 : decode c_M_epoch 1 = .ok (.tableswitch 74 0 8 #[51, 53, 74, 55, 58, 62, 65, 68, 71], 51) := by decide +kernel
theorem d_M_epoch_52 : decode c_M_epoch 52 = .ok (.iconst 1, 1) := by decide +kernel
theorem d_M_epoch_53 : decode c_M_epoch 53 = .ok (.ireturn, 1) := by decide +kernel
theorem d_M_epoch_54 : decode c_M_epoch 54 = .ok (.iconst (-1), 1) := by decide +kernel
theorem d_M_epoch_55 : decode c_M_epoch 55 = .ok (.ireturn, 1) := by decide +kernel
theorem d_M_epoch_56 : decode c_M_epoch 56 = .ok (.ldc 114, 2) := by decide +kernel
theorem d_M_epoch_58 : decode c_M_epoch 58 = .ok (.ireturn, 1) := by decide +kernel
theorem d_M_epoch_59 : decode c_M_epoch 59 = .ok (.sipush 2796, 3) := by decide +kernel
theorem d_M_epoch_62 : decode c_M_epoch 62 = .ok (.ireturn, 1) := by decide +kernel
theorem d_M_epoch_63 : decode c_M_epoch 63 = .ok (.ldc 115, 2) := by decide +kernel
theorem d_M_epoch_65 : decode c_M_epoch 65 = .ok (.ireturn, 1) := by decide +kernel
theorem d_M_epoch_66 : decode c_M_epoch 66 = .ok (.ldc 116, 2) := by decide +kernel
theorem d_M_epoch_68 : decode c_M_epoch 68 = .ok (.ireturn, 1) := by decide +kernel
theorem d_M_epoch_69 : decode c_M_epoch 69 = .ok (.ldc 117, 2) := by decide +kernel
theorem d_M_epoch_71 : decode c_M_epoch 71 = .ok (.ireturn, 1) := by decide +kernel
theorem d_M_epoch_72 : decode c_M_epoch 72 = .ok (.ldc 118, 2) := by decide +kernel
theorem d_M_epoch_74 : decode c_M_epoch 74 = .ok (.ireturn, 1) := by decide +kernel
theorem d_M_epoch_75 : decode c_M_epoch 75 = .ok (.aload_n 0, 1) := by decide +kernel
theorem d_M_epoch_76 : decode c_M_epoch 76 = .ok (.getfield 27, 3) := by decide +kernel
theorem d_M_epoch_79 : decode c_M_epoch 79 = .ok (.iload_n 1, 1) := by decide +kernel
theorem d_M_epoch_80 : decode c_M_epoch 80 = .ok (.bipush 12, 2) := by decide +kernel
theorem d_M_epoch_82 : decode c_M_epoch 82 = .ok (.isub, 1) := by decide +kernel
theorem d_M_epoch_83 : decode c_M_epoch 83 = .ok (.iaload, 1) := by decide +kernel
theorem d_M_epoch_84 : decode c_M_epoch 84 = .ok (.ireturn, 1) := by decide +kernel
theorem d_M_feast_0 : decode c_M_feast 0 = .ok (.aload_n 0, 1) := by decide +kernel
theorem d_M_feast_1 : decode c_M_feast 1 = .ok (.iload_n 1, 1) := by decide +kernel
theorem d_M_feast_2 : decode c_M_feast 2 = .ok (.ifCond .lt 8, 3) := by decide +kernel
theorem d_M_feast_5 : decode c_M_feast 5 = .ok (.iload_n 1, 1) := by decide +kernel
theorem d_M_feast_6 : decode c_M_feast 6 = .ok (.iconst 2, 1) := by decide +kernel
theorem d_M_feast_7 : decode c_M_feast 7 = .ok (.if_icmp .le 7, 3) := by decide +kernel
theorem d_M_feast_10 : decode c_M_feast 10 = .ok (.iconst 1, 1) := by decide +kernel
theorem d_M_feast_11 : decode c_M_feast 11 = .ok (.goto 22, 3) := by decide +kernel
theorem d_M_feast_14 : decode c_M_feast 14 = .ok (.iload_n 2, 1) := by decide +kernel
theorem d_M_feast_15 : decode c_M_feast 15 = .ok (.ldc_w 292, 3) := by decide +kernel
theorem d_M_feast_18 : decode c_M_feast 18 = .ok (.if_icmp .lt 10, 3) := by decide +kernel
theorem d_M_feast_21 : decode c_M_feast 21 = .ok (.iload_n 2, 1) := by decide +kernel
theorem d_M_feast_22 : decode c_M_feast 22 = .ok (.ldc_w 293, 3) := by decide +kernel
theorem d_M_feast_25 : decode c_M_feast 25 = .ok (.if_icmp .le 7, 3) := by decide +kernel
theorem d_M_feast_28 : decode c_M_feast 28 = .ok (.iconst 2, 1) := by decide +kernel
theorem d_M_feast_29 : decode c_M_feast 29 = .ok (.goto 4, 3) := by decide +kernel
theorem d_M_feast_32 : decode c_M_feast 32 = .ok (.iconst 0, 1) := by decide +kernel
theorem d_M_feast_33 : decode c_M_feast 33 = .ok (.putfield 52, 3) := by decide +kernel
theorem d_M_feast_36 : decode c_M_feast 36 = .ok (.aload_n 0, 1) := by decide +kernel
theorem d_M_feast_37 : decode c_M_feast 37 = .ok (.getfield 52, 3) := by decide +kernel
theorem d_M_feast_40 : decode c_M_feast 40 = .ok (.ifCond .le 5, 3) := by decide +kernel
theorem d_M_feast_43 : decode c_M_feast 43 = .ok (.iconst 0, 1) := by decide +kernel
theorem d_M_feast_44 : decode c_M_feast 44 = .ok (.ireturn, 1) := by decide +kernel
theorem d_M_feast_45 : decode c_M_feast 45 = .ok (.iload_n 2, 1) := by decide +kernel
theorem d_M_feast_46 : decode c_M_feast 46 = .ok (.i2l, 1) := by decide +kernel
theorem d_M_feast_47 : decode c_M_feast 47 = .ok (.ldc2_w 100, 3) := by decide +kernel
theorem d_M_feast_50 : decode c_M_feast 50 = .ok (.invokestatic 65, 3) := by decide +kernel
theorem d_M_feast_53 : decode c_M_feast 53 = .ok (.lstore_n 3, 1) := by decide +kernel
theorem d_M_feast_54 : decode c_M_feast 54 = .ok (.iload_n 1, 1) := by decide +kernel
theorem d_M_feast_55 : decode c_M_feast 55 = .ok (.iconst 2, 1) := by decide +kernel
theorem d_M_feast_56 : decode c_M_feast 56 = .ok (.if_icmp .ne 19, 3) := by decide +kernel
theorem d_M_feast_59 : decode c_M_feast 59 = .ok (.aload_n 0, 1) := by decide +kernel
theorem d_M_feast_60 : decode c_M_feast 60 = .ok (.bipush 9, 2) := by decide +kernel
theorem d_M_feast_62 : decode c_M_feast 62 = .ok (.iload_n 2, 1) := by decide +kernel
theorem d_M_feast_63 : decode c_M_feast 63 = .ok (.sipush 3760, 3) := by decide +kernel
theorem d_M_feast_66 : decode c_M_feast 66 = .ok (.iadd, 1) := by decide +kernel
theorem d_M_feast_67 : decode c_M_feast 67 = .ok (.iconst 1, 1) := by decide +kernel
theorem d_M_feast_68 : decode c_M_feast 68 = .ok (.bipush 15, 2) := by decide +kernel
theorem d_M_feast_70 : decode c_M_feast 70 = .ok (.invokevirtual 280, 3) := by decide +kernel
theorem d_M_feast_73 : decode c_M_feast 73 = .ok (.l2i, 1) := by decide +kernel
theorem d_M_feast_74 : decode c_M_feast 74 = .ok (.ireturn, 1) := by decide +kernel
theorem d_M_feast_75 : decode c_M_feast 75 = .ok (.iload_n 1, 1) := by decide +kernel
theorem d_M_feast_76 : decode c_M_feast 76 = .ok (.iconst 1, 1) := by decide +kernel
theorem d_M_feast_77 : decode c_M_feast 77 = .ok (.if_icmp .ne 43, 3) := by decide +kernel
theorem d_M_feast_80 : decode c_M_feast 80 = .ok (.aload_n 0, 1) := by decide +kernel
theorem d_M_feast_81 : decode c_M_feast 81 = .ok (.iconst 1, 1) := by decide +kernel
theorem d_M_feast_82 : decode c_M_feast 82 = .ok (.iload_n 2, 1) := by decide +kernel
theorem d_M_feast_83 : decode c_M_feast 83 = .ok (.ifCond .le 7, 3) := by decide +kernel
theorem d_M_feast_86 : decode c_M_feast 86 = .ok (.iload_n 2, 1) := by decide +kernel
theorem d_M_feast_87 : decode c_M_feast 87 = .ok (.goto 6, 3) := by decide +kernel
theorem d_M_feast_90 : decode c_M_feast 90 = .ok (.iload_n 2, 1) := by decide +kernel
theorem d_M_feast_91 : decode c_M_feast 91 = .ok (.iconst 1, 1) := by decide +kernel
theorem d_M_feast_92 : decode c_M_feast 92 = .ok (.isub, 1) := by decide +kernel
theorem d_M_feast_93 : decode c_M_feast 93 = .ok (.iconst 4, 1) := by decide +kernel
theorem d_M_feast_94 : decode c_M_feast 94 = .ok (.bipush 19, 2) := by decide +kernel
theorem d_M_feast_96 : decode c_M_feast 96 = .ok (.invokevirtual 280, 3) := by decide +kernel
theorem d_M_feast_99 : decode c_M_feast 99 = .ok (.ldc2_w 80, 3) := by decide +kernel
theorem d_M_feast_102 : decode c_M_feast 102 = .ok (.ldc2_w 78, 3) := by decide +kernel
theorem d_M_feast_105 : decode c_M_feast 105 = .ok (.lload_n 3, 1) := by decide +kernel
theorem d_M_feast_106 : decode c_M_feast 106 = .ok (.lmul, 1) := by decide +kernel
theorem d_M_feast_107 : decode c_M_feast 107 = .ok (.ladd, 1) := by decide +kernel
theorem d_M_feast_108 : decode c_M_feast 108 = .ok (.ldc2_w 82, 3) := by decide +kernel
theorem d_M_feast_111 : decode c_M_feast 111 = .ok (.invokestatic 65, 3) := by decide +kernel
theorem d_M_feast_114 : decode c_M_feast 114 = .ok (.lsub, 1) := by decide +kernel
theorem d_M_feast_115 : decode c_M_feast 115 = .ok (.invokestatic 294, 3) := by decide +kernel
theorem d_M_feast_118 : decode c_M_feast 118 = .ok (.l2i, 1) := by decide +kernel
theorem d_M_feast_119 : decode c_M_feast 119 = .ok (.ireturn, 1) := by decide +kernel
theorem d_M_feast_120 : decode c_M_feast 120 = .ok (.iload_n 2, 1) := by decide +kernel
theorem d_M_feast_121 : decode c_M_feast 121 = .ok (.i2l, 1) := by decide +kernel
theorem d_M_feast_122 : decode c_M_feast 122 = .ok (.ldc2_w 68, 3) := by decide +kernel
theorem d_M_feast_125 : decode c_M_feast 125 = .ok (.invokestatic 55, 3) := by decide +kernel
theorem d_M_feast_128 : decode c_M_feast 128 = .ok (.lconst 1, 1) := by decide +kernel
theorem d_M_feast_129 : decode c_M_feast 129 = .ok (.ladd, 1) := by decide +kernel
theorem d_M_feast_130 : decode c_M_feast 130 = .ok (.lstore 5, 2) := by decide +kernel
theorem d_M_feast_132 : decode c_M_feast 132 = .ok (.ldc2_w 80, 3) := by decide +kernel
theorem d_M_feast_135 : decode c_M_feast 135 = .ok (.ldc2_w 78, 3) := by decide +kernel
theorem d_M_feast_138 : decode c_M_feast 138 = .ok (.lload_n 3, 1) := by decide +kernel
theorem d_M_feast_139 : decode c_M_feast 139 = .ok (.lmul, 1) := by decide +kernel
theorem d_M_feast_140 : decode c_M_feast 140 = .ok (.ladd, 1) := by decide +kernel
theorem d_M_feast_141 : decode c_M_feast 141 = .ok (.ldc2_w 76, 3) := by decide +kernel
theorem d_M_feast_144 : decode c_M_feast 144 = .ok (.lload 5, 2) := by decide +kernel
theorem d_M_feast_146 : decode c_M_feast 146 = .ok (.lmul, 1) := by decide +kernel
theorem d_M_feast_147 : decode c_M_feast 147 = .ok (.ldc2_w 63, 3) := by decide +kernel
theorem d_M_feast_150 : decode c_M_feast 150 = .ok (.invokestatic 55, 3) := by decide +kernel
theorem d_M_feast_153 : decode c_M_feast 153 = .ok (.lsub, 1) := by decide +kernel
theorem d_M_feast_154 : decode c_M_feast 154 = .ok (.ldc2_w 297, 3) := by decide +kernel
theorem d_M_feast_157 : decode c_M_feast 157 = .ok (.ldc2_w 299, 3) := by decide +kernel
theorem d_M_feast_160 : decode c_M_feast 160 = .ok (.lload 5, 2) := by decide +kernel
theorem d_M_feast_162 : decode c_M_feast 162 = .ok (.lmul, 1) := by decide +kernel
theorem d_M_feast_163 : decode c_M_feast 163 = .ok (.ladd, 1) := by decide +kernel
theorem d_M_feast_164 : decode c_M_feast 164 = .ok (.ldc2_w 301, 3) := by decide +kernel
theorem d_M_feast_167 : decode c_M_feast 167 = .ok (.invokestatic 55, 3) := by decide +kernel
theorem d_M_feast_170 : decode c_M_feast 170 = .ok (.ladd, 1) := by decide +kernel
theorem d_M_feast_171 : decode c_M_feast 171 = .ok (.ldc2_w 82, 3) := by decide +kernel
theorem d_M_feast_174 : decode c_M_feast 174 = .ok (.invokestatic 65, 3) := by decide +kernel
theorem d_M_feast_177 : decode c_M_feast 177 = .ok (.lstore 7, 2) := by decide +kernel
theorem d_M_feast_179 : decode c_M_feast 179 = .ok (.lload 7, 2) := by decide +kernel
theorem d_M_feast_181 : decode c_M_feast 181 = .ok (.lconst 0, 1) := by decide +kernel
theorem d_M_feast_182 : decode c_M_feast 182 = .ok (.lcmp, 1) := by decide +kernel
theorem d_M_feast_183 : decode c_M_feast 183 = .ok (.ifCond .eq 18, 3) := by decide +kernel
theorem d_M_feast_186 : decode c_M_feast 186 = .ok (.lload 7, 2) := by decide +kernel
theorem d_M_feast_188 : decode c_M_feast 188 = .ok (.lconst 1, 1) := by decide +kernel
theorem d_M_feast_189 : decode c_M_feast 189 = .ok (.lcmp, 1) := by decide +kernel
theorem d_M_feast_190 : decode c_M_feast 190 = .ok (.ifCond .ne 18, 3) := by decide +kernel
theorem d_M_feast_193 : decode c_M_feast 193 = .ok (.lload_n 3, 1) := by decide +kernel
theorem d_M_feast_194 : decode c_M_feast 194 = .ok (.ldc2_w 303, 3) := by decide +kernel
theorem d_M_feast_197 : decode c_M_feast 197 = .ok (.lcmp, 1) := by decide +kernel
theorem d_M_feast_198 : decode c_M_feast 198 = .ok (.ifCond .le 10, 3) := by decide +kernel
theorem d_M_feast_201 : decode c_M_feast 201 = .ok (.lload 7, 2) := by decide +kernel
theorem d_M_feast_203 : decode c_M_feast 203 = .ok (.lconst 1, 1) := by decide +kernel
theorem d_M_feast_204 : decode c_M_feast 204 = .ok (.ladd, 1) := by decide +kernel
theorem d_M_feast_205 : decode c_M_feast 205 = .ok (.goto 5, 3) := by decide +kernel
theorem d_M_feast_208 : decode c_M_feast 208 = .ok (.lload 7, 2) := by decide +kernel
theorem d_M_feast_210 : decode c_M_feast 210 = .ok (.lstore 7, 2) := by decide +kernel
theorem d_M_feast_212 : decode c_M_feast 212 = .ok (.aload_n 0, 1) := by decide +kernel
theorem d_M_feast_213 : decode c_M_feast 213 = .ok (.iconst 0, 1) := by decide +kernel
theorem d_M_feast_214 : decode c_M_feast 214 = .ok (.iload_n 2, 1) := by decide +kernel
theorem d_M_feast_215 : decode c_M_feast 215 = .ok (.iconst 4, 1) := by decide +kernel
theorem d_M_feast_216 : decode c_M_feast 216 = .ok (.bipush 19, 2) := by decide +kernel
theorem d_M_feast_218 : decode c_M_feast 218 = .ok (.invokevirtual 280, 3) := by decide +kernel
theorem d_M_feast_221 : decode c_M_feast 221 = .ok (.lload 7, 2) := by decide +kernel
theorem d_M_feast_223 : decode c_M_feast 223 = .ok (.lsub, 1) := by decide +kernel
theorem d_M_feast_224 : decode c_M_feast 224 = .ok (.invokestatic 294, 3) := by decide +kernel
theorem d_M_feast_227 : decode c_M_feast 227 = .ok (.l2i, 1) := by decide +kernel
theorem d_M_feast_228 : decode c_M_feast 228 = .ok (.ireturn, 1) := by decide +kernel
theorem d_M_findDate_0 : decode c_M_findDate 0 = .ok (.iload_n 1, 1) := by decide +kernel
theorem d_M_findDate_1 : decode c_M_findDate 1 = .ok (.bipush 10, 2) := by decide +kernel
theorem d_M_findDate_3 : decode c_M_findDate 3 = .ok (.if_icmp .ne 77, 3) := by decide +kernel
theorem d_M_findDate_6 : decode c_M_findDate 6 = .ok (.ldc2_w 225, 3) := by decide +kernel
theorem d_M_findDate_9 : decode c_M_findDate 9 = .ok (.lload_n 2, 1) := by decide +kernel
theorem d_M_findDate_10 : decode c_M_findDate 10 = .ok (.ldc2_w 202, 3) := by decide +kernel
theorem d_M_findDate_13 : decode c_M_findDate 13 = .ok (.ladd, 1) := by decide +kernel
theorem d_M_findDate_14 : decode c_M_findDate 14 = .ok (.lmul, 1) := by decide +kernel
theorem d_M_findDate_15 : decode c_M_findDate 15 = .ok (.ldc2_w 227, 3) := by decide +kernel
theorem d_M_findDate_18 : decode c_M_findDate 18 = .ok (.ladd, 1) := by decide +kernel
theorem d_M_findDate_19 : decode c_M_findDate 19 = .ok (.lstore 4, 2) := by decide +kernel
theorem d_M_findDate_21 : decode c_M_findDate 21 = .ok (.lload 4, 2) := by decide +kernel
theorem d_M_findDate_23 : decode c_M_findDate 23 = .ok (.ldc2_w 229, 3) := by decide +kernel
theorem d_M_findDate_26 : decode c_M_findDate 26 = .ok (.invokestatic 55, 3) := by decide +kernel
theorem d_M_findDate_29 : decode c_M_findDate 29 = .ok (.lstore 6, 2) := by decide +kernel
theorem d_M_findDate_31 : decode c_M_findDate 31 = .ok (.aload_n 0, 1) := by decide +kernel
theorem d_M_findDate_32 : decode c_M_findDate 32 = .ok (.lload 6, 2) := by decide +kernel
theorem d_M_findDate_34 : decode c_M_findDate 34 = .ok (.ldc2_w 210, 3) := by decide +kernel
theorem d_M_findDate_37 : decode c_M_findDate 37 = .ok (.invokestatic 55, 3) := by decide +kernel
theorem d_M_findDate_40 : decode c_M_findDate 40 = .ok (.putfield 212, 3) := by decide +kernel
theorem d_M_findDate_43 : decode c_M_findDate 43 = .ok (.aload_n 0, 1) := by decide +kernel
theorem d_M_findDate_44 : decode c_M_findDate 44 = .ok (.lload 6, 2) := by decide +kernel
theorem d_M_findDate_46 : decode c_M_findDate 46 = .ok (.ldc2_w 210, 3) := by decide +kernel
theorem d_M_findDate_49 : decode c_M_findDate 49 = .ok (.invokestatic 65, 3) := by decide +kernel
theorem d_M_findDate_52 : decode c_M_findDate 52 = .ok (.l2i, 1) := by decide +kernel
theorem d_M_findDate_53 : decode c_M_findDate 53 = .ok (.iconst 1, 1) := by decide +kernel
theorem d_M_findDate_54 : decode c_M_findDate 54 = .ok (.iadd, 1) := by decide +kernel
theorem d_M_findDate_55 : decode c_M_findDate 55 = .ok (.putfield 217, 3) := by decide +kernel
theorem d_M_findDate_58 : decode c_M_findDate 58 = .ok (.aload_n 0, 1) := by decide +kernel
theorem d_M_findDate_59 : decode c_M_findDate 59 = .ok (.lload 4, 2) := by decide +kernel
theorem d_M_findDate_61 : decode c_M_findDate 61 = .ok (.ldc2_w 229, 3) := by decide +kernel
theorem d_M_findDate_64 : decode c_M_findDate 64 = .ok (.invokestatic 65, 3) := by decide +kernel
theorem d_M_findDate_67 : decode c_M_findDate 67 = .ok (.ldc2_w 225, 3) := by decide +kernel
theorem d_M_findDate_70 : decode c_M_findDate 70 = .ok (.invokestatic 55, 3) := by decide +kernel
theorem d_M_findDate_73 : decode c_M_findDate 73 = .ok (.l2i, 1) := by decide +kernel
theorem d_M_findDate_74 : decode c_M_findDate 74 = .ok (.iconst 1, 1) := by decide +kernel
theorem d_M_findDate_75 : decode c_M_findDate 75 = .ok (.iadd, 1) := by decide +kernel
theorem d_M_findDate_76 : decode c_M_findDate 76 = .ok (.putfield 222, 3) := by decide +kernel
theorem d_M_findDate_79 : decode c_M_findDate 79 = .ok (.return_, 1) := by decide +kernel
theorem d_M_findDate_80 : decode c_M_findDate 80 = .ok (.iload_n 1, 1) := by decide +kernel
theorem d_M_findDate_81 : decode c_M_findDate 81 = .ok (.bipush 11, 2) := by decide +kernel
theorem d_M_findDate_83 : decode c_M_findDate 83 = .ok (.if_icmp .ne 9, 3) := by decide +kernel
theorem d_M_findDate_86 : decode c_M_findDate 86 = .ok (.aload_n 0, 1) := by decide +kernel
theorem d_M_findDate_87 : decode c_M_findDate 87 = .ok (.lload_n 2, 1) := by decide +kernel
theorem d_M_findDate_88 : decode c_M_findDate 88 = .ok (.invokevirtual 231, 3) := by decide +kernel
theorem d_M_findDate_91 : decode c_M_findDate 91 = .ok (.return_, 1) := by decide +kernel
theorem d_M_findDate_92 : decode c_M_findDate 92 = .ok (.aload_n 0, 1) := by decide +kernel
theorem d_M_findDate_93 : decode c_M_findDate 93 = .ok (.iload_n 1, 1) := by decide +kernel
theorem d_M_findDate_94 : decode c_M_findDate 94 = .ok (.lload_n 2, 1) := by decide +kernel
theorem d_M_findDate_95 : decode c_M_findDate 95 = .ok (.invokevirtual 235, 3) := by decide +kernel
theorem d_M_findDate_98 : decode c_M_findDate 98 = .ok (.lload_n 2, 1) := by decide +kernel
theorem d_M_findDate_99 : decode c_M_findDate 99 = .ok (.aload_n 0, 1) := by decide +kernel
theorem d_M_findDate_100 : decode c_M_findDate 100 = .ok (.getfield 181, 3) := by decide +kernel
theorem d_M_findDate_103 : decode c_M_findDate 103 = .ok (.lsub, 1) := by decide +kernel
theorem d_M_findDate_104 : decode c_M_findDate 104 = .ok (.lstore 4, 2) := by decide +kernel
theorem d_M_findDate_106 : decode c_M_findDate 106 = .ok (.aload_n 0, 1) := by decide +kernel
theorem d_M_findDate_107 : decode c_M_findDate 107 = .ok (.iload_n 1, 1) := by decide +kernel
theorem d_M_findDate_108 : decode c_M_findDate 108 = .ok (.aload_n 0, 1) := by decide +kernel
theorem d_M_findDate_109 : decode c_M_findDate 109 = .ok (.getfield 177, 3) := by decide +kernel
theorem d_M_findDate_112 : decode c_M_findDate 112 = .ok (.invokestatic 238, 3) := by decide +kernel
theorem d_M_findDate_115 : decode c_M_findDate 115 = .ok (.putfield 212, 3) := by decide +kernel
theorem d_M_findDate_118 : decode c_M_findDate 118 = .ok (.iload_n 1, 1) := by decide +kernel
theorem d_M_findDate_119 : decode c_M_findDate 119 = .ok (.iconst 2, 1) := by decide +kernel
theorem d_M_findDate_120 : decode c_M_findDate 120 = .ok (.if_icmp .ne 30, 3) := by decide +kernel
theorem d_M_findDate_123 : decode c_M_findDate 123 = .ok (.aload_n 0, 1) := by decide +kernel
theorem d_M_findDate_124 : decode c_M_findDate 124 = .ok (.lload 4, 2) := by decide +kernel
theorem d_M_findDate_126 : decode c_M_findDate 126 = .ok (.ldc2_w 98, 3) := by decide +kernel
theorem d_M_findDate_129 : decode c_M_findDate 129 = .ok (.ldiv, 1) := by decide +kernel
theorem d_M_findDate_130 : decode c_M_findDate 130 = .ok (.l2i, 1) := by decide +kernel
theorem d_M_findDate_131 : decode c_M_findDate 131 = .ok (.iconst 1, 1) := by decide +kernel
theorem d_M_findDate_132 : decode c_M_findDate 132 = .ok (.iadd, 1) := by decide +kernel
theorem d_M_findDate_133 : decode c_M_findDate 133 = .ok (.putfield 217, 3) := by decide +kernel
theorem d_M_findDate_136 : decode c_M_findDate 136 = .ok (.aload_n 0, 1) := by decide +kernel
theorem d_M_findDate_137 : decode c_M_findDate 137 = .ok (.lload 4, 2) := by decide +kernel
theorem d_M_findDate_139 : decode c_M_findDate 139 = .ok (.ldc2_w 98, 3) := by decide +kernel
theorem d_M_findDate_142 : decode c_M_findDate 142 = .ok (.lrem, 1) := by decide +kernel
theorem d_M_findDate_143 : decode c_M_findDate 143 = .ok (.l2i, 1) := by decide +kernel
theorem d_M_findDate_144 : decode c_M_findDate 144 = .ok (.iconst 1, 1) := by decide +kernel
theorem d_M_findDate_145 : decode c_M_findDate 145 = .ok (.iadd, 1) := by decide +kernel
theorem d_M_findDate_146 : decode c_M_findDate 146 = .ok (.putfield 222, 3) := by decide +kernel
theorem d_M_findDate_149 : decode c_M_findDate 149 = .ok (.return_, 1) := by decide +kernel
theorem d_M_findDate_150 : decode c_M_findDate 150 = .ok (.iconst 0, 1) := by decide +kernel
theorem d_M_findDate_151 : decode c_M_findDate 151 = .ok (.istore 6, 2) := by decide +kernel
theorem d_M_findDate_153 : decode c_M_findDate 153 = .ok (.lload 4, 2) := by decide +kernel
theorem d_M_findDate_155 : decode c_M_findDate 155 = .ok (.aload_n 0, 1) := by decide +kernel
theorem d_M_findDate_156 : decode c_M_findDate 156 = .ok (.iload_n 1, 1) := by decide +kernel
theorem d_M_findDate_157 : decode c_M_findDate 157 = .ok (.aload_n 0, 1) := by decide +kernel
theorem d_M_findDate_158 : decode c_M_findDate 158 = .ok (.getfield 177, 3) := by decide +kernel
theorem d_M_findDate_161 : decode c_M_findDate 161 = .ok (.aload_n 0, 1) := by decide +kernel
theorem d_M_findDate_162 : decode c_M_findDate 162 = .ok (.iload_n 1, 1) := by decide +kernel
theorem d_M_findDate_163 : decode c_M_findDate 163 = .ok (.aload_n 0, 1) := by decide +kernel
theorem d_M_findDate_164 : decode c_M_findDate 164 = .ok (.getfield 177, 3) := by decide +kernel
theorem d_M_findDate_167 : decode c_M_findDate 167 = .ok (.iload 6, 2) := by decide +kernel
theorem d_M_findDate_169 : decode c_M_findDate 169 = .ok (.invokevirtual 119, 3) := by decide +kernel
theorem d_M_findDate_172 : decode c_M_findDate 172 = .ok (.invokevirtual 123, 3) := by decide +kernel
theorem d_M_findDate_175 : decode c_M_findDate 175 = .ok (.i2l, 1) := by decide +kernel
theorem d_M_findDate_176 : decode c_M_findDate 176 = .ok (.lcmp, 1) := by decide +kernel
theorem d_M_findDate_177 : decode c_M_findDate 177 = .ok (.ifCond .lt 35, 3) := by decide +kernel
theorem d_M_findDate_180 : decode c_M_findDate 180 = .ok (.lload 4, 2) := by decide +kernel
theorem d_M_findDate_182 : decode c_M_findDate 182 = .ok (.aload_n 0, 1) := by decide +kernel
theorem d_M_findDate_183 : decode c_M_findDate 183 = .ok (.iload_n 1, 1) := by decide +kernel
theorem d_M_findDate_184 : decode c_M_findDate 184 = .ok (.aload_n 0, 1) := by decide +kernel
theorem d_M_findDate_185 : decode c_M_findDate 185 = .ok (.getfield 177, 3) := by decide +kernel
theorem d_M_findDate_188 : decode c_M_findDate 188 = .ok (.aload_n 0, 1) := by decide +kernel
theorem d_M_findDate_189 : decode c_M_findDate 189 = .ok (.iload_n 1, 1) := by decide +kernel
theorem d_M_findDate_190 : decode c_M_findDate 190 = .ok (.aload_n 0, 1) := by decide +kernel
theorem d_M_findDate_191 : decode c_M_findDate 191 = .ok (.getfield 177, 3) := by decide +kernel
theorem d_M_findDate_194 : decode c_M_findDate 194 = .ok (.iload 6, 2) := by decide +kernel
theorem d_M_findDate_196 : decode c_M_findDate 196 = .ok (.invokevirtual 119, 3) := by decide +kernel
theorem d_M_findDate_199 : decode c_M_findDate 199 = .ok (.invokevirtual 123, 3) := by decide +kernel
theorem d_M_findDate_202 : decode c_M_findDate 202 = .ok (.i2l, 1) := by decide +kernel
theorem d_M_findDate_203 : decode c_M_findDate 203 = .ok (.lsub, 1) := by decide +kernel
theorem d_M_findDate_204 : decode c_M_findDate 204 = .ok (.lstore 4, 2) := by decide +kernel
theorem d_M_findDate_206 : decode c_M_findDate 206 = .ok (.iinc 6 1, 3) := by decide +kernel
theorem d_M_findDate_209 : decode c_M_findDate 209 = .ok (.goto (-56), 3) := by decide +kernel
theorem d_M_findDate_212 : decode c_M_findDate 212 = .ok (.aload_n 0, 1) := by decide +kernel
theorem d_M_findDate_213 : decode c_M_findDate 213 = .ok (.aload_n 0, 1) := by decide +kernel
theorem d_M_findDate_214 : decode c_M_findDate 214 = .ok (.iload_n 1, 1) := by decide +kernel
theorem d_M_findDate_215 : decode c_M_findDate 215 = .ok (.aload_n 0, 1) := by decide +kernel
theorem d_M_findDate_216 : decode c_M_findDate 216 = .ok (.getfield 177, 3) := by decide +kernel
theorem d_M_findDate_219 : decode c_M_findDate 219 = .ok (.iload 6, 2) := by decide +kernel
theorem d_M_findDate_221 : decode c_M_findDate 221 = .ok (.invokevirtual 119, 3) := by decide +kernel
theorem d_M_findDate_224 : decode c_M_findDate 224 = .ok (.putfield 217, 3) := by decide +kernel
theorem d_M_findDate_227 : decode c_M_findDate 227 = .ok (.aload_n 0, 1) := by decide +kernel
theorem d_M_findDate_228 : decode c_M_findDate 228 = .ok (.lload 4, 2) := by decide +kernel
theorem d_M_findDate_230 : decode c_M_findDate 230 = .ok (.l2i, 1) := by decide +kernel
theorem d_M_findDate_231 : decode c_M_findDate 231 = .ok (.iconst 1, 1) := by decide +kernel
theorem d_M_findDate_232 : decode c_M_findDate 232 = .ok (.iadd, 1) := by decide +kernel
theorem d_M_findDate_233 : decode c_M_findDate 233 = .ok (.putfield 222, 3) := by decide +kernel
theorem d_M_findDate_236 : decode c_M_findDate 236 = .ok (.return_, 1) := by decide +kernel
theorem d_M_findMoonDate_0 : decode c_M_findMoonDate 0 = .ok (.ldc2_w 63, 3) := by decide +kernel
theorem d_M_findMoonDate_3 : decode c_M_findMoonDate 3 = .ok (.lload_n 1, 1) := by decide +kernel
theorem d_M_findMoonDate_4 : decode c_M_findMoonDate 4 = .ok (.ldc2_w 202, 3) := by decide +kernel
theorem d_M_findMoonDate_7 : decode c_M_findMoonDate 7 = .ok (.ladd, 1) := by decide +kernel
theorem d_M_findMoonDate_8 : decode c_M_findMoonDate 8 = .ok (.lmul, 1) := by decide +kernel
theorem d_M_findMoonDate_9 : decode c_M_findMoonDate 9 = .ok (.lconst 1, 1) := by decide +kernel
theorem d_M_findMoonDate_10 : decode c_M_findMoonDate 10 = .ok (.ladd, 1) := by decide +kernel
theorem d_M_findMoonDate_11 : decode c_M_findMoonDate 11 = .ok (.lstore_n 3, 1) := by decide +kernel
theorem d_M_findMoonDate_12 : decode c_M_findMoonDate 12 = .ok (.lload_n 3, 1) := by decide +kernel
theorem d_M_findMoonDate_13 : decode c_M_findMoonDate 13 = .ok (.ldc2_w 204, 3) := by decide +kernel
theorem d_M_findMoonDate_16 : decode c_M_findMoonDate 16 = .ok (.lmul, 1) := by decide +kernel
theorem d_M_findMoonDate_17 : decode c_M_findMoonDate 17 = .ok (.ldc2_w 206, 3) := by decide +kernel
theorem d_M_findMoonDate_20 : decode c_M_findMoonDate 20 = .ok (.invokestatic 55, 3) := by decide +kernel
theorem d_M_findMoonDate_23 : decode c_M_findMoonDate 23 = .ok (.ldc2_w 208, 3) := by decide +kernel
theorem d_M_findMoonDate_26 : decode c_M_findMoonDate 26 = .ok (.lmul, 1) := by decide +kernel
theorem d_M_findMoonDate_27 : decode c_M_findMoonDate 27 = .ok (.lstore 5, 2) := by decide +kernel
theorem d_M_findMoonDate_29 : decode c_M_findMoonDate 29 = .ok (.lload 5, 2) := by decide +kernel
theorem d_M_findMoonDate_31 : decode c_M_findMoonDate 31 = .ok (.lneg, 1) := by decide +kernel
theorem d_M_findMoonDate_32 : decode c_M_findMoonDate 32 = .ok (.ldc2_w 204, 3) := by decide +kernel
theorem d_M_findMoonDate_35 : decode c_M_findMoonDate 35 = .ok (.invokestatic 55, 3) := by decide +kernel
theorem d_M_findMoonDate_38 : decode c_M_findMoonDate 38 = .ok (.lneg, 1) := by decide +kernel
theorem d_M_findMoonDate_39 : decode c_M_findMoonDate 39 = .ok (.lstore 7, 2) := by decide +kernel
theorem d_M_findMoonDate_41 : decode c_M_findMoonDate 41 = .ok (.lload 5, 2) := by decide +kernel
theorem d_M_findMoonDate_43 : decode c_M_findMoonDate 43 = .ok (.ldc2_w 204, 3) := by decide +kernel
theorem d_M_findMoonDate_46 : decode c_M_findMoonDate 46 = .ok (.invokestatic 65, 3) := by decide +kernel
theorem d_M_findMoonDate_49 : decode c_M_findMoonDate 49 = .ok (.lstore 9, 2) := by decide +kernel
theorem d_M_findMoonDate_51 : decode c_M_findMoonDate 51 = .ok (.aload_n 0, 1) := by decide +kernel
theorem d_M_findMoonDate_52 : decode c_M_findMoonDate 52 = .ok (.lload 7, 2) := by decide +kernel
theorem d_M_findMoonDate_54 : decode c_M_findMoonDate 54 = .ok (.ldc2_w 210, 3) := by decide +kernel
theorem d_M_findMoonDate_57 : decode c_M_findMoonDate 57 = .ok (.invokestatic 55, 3) := by decide +kernel
theorem d_M_findMoonDate_60 : decode c_M_findMoonDate 60 = .ok (.putfield 212, 3) := by decide +kernel
theorem d_M_findMoonDate_63 : decode c_M_findMoonDate 63 = .ok (.aload_n 0, 1) := by decide +kernel
theorem d_M_findMoonDate_64 : decode c_M_findMoonDate 64 = .ok (.lload 7, 2) := by decide +kernel
theorem d_M_findMoonDate_66 : decode c_M_findMoonDate 66 = .ok (.ldc2_w 210, 3) := by decide +kernel
theorem d_M_findMoonDate_69 : decode c_M_findMoonDate 69 = .ok (.invokestatic 65, 3) := by decide +kernel
theorem d_M_findMoonDate_72 : decode c_M_findMoonDate 72 = .ok (.l2i, 1) := by decide +kernel
theorem d_M_findMoonDate_73 : decode c_M_findMoonDate 73 = .ok (.lload 9, 2) := by decide +kernel
theorem d_M_findMoonDate_75 : decode c_M_findMoonDate 75 = .ok (.lconst 1, 1) := by decide +kernel
theorem d_M_findMoonDate_76 : decode c_M_findMoonDate 76 = .ok (.lcmp, 1) := by decide +kernel
theorem d_M_findMoonDate_77 : decode c_M_findMoonDate 77 = .ok (.ifCond .lt 17, 3) := by decide +kernel
theorem d_M_findMoonDate_80 : decode c_M_findMoonDate 80 = .ok (.lload 9, 2) := by decide +kernel
theorem d_M_findMoonDate_82 : decode c_M_findMoonDate 82 = .ok (.ldc2_w 215, 3) := by decide +kernel
theorem d_M_findMoonDate_85 : decode c_M_findMoonDate 85 = .ok (.lcmp, 1) := by decide +kernel
theorem d_M_findMoonDate_86 : decode c_M_findMoonDate 86 = .ok (.ifCond .gt 8, 3) := by decide +kernel
theorem d_M_findMoonDate_89 : decode c_M_findMoonDate 89 = .ok (.bipush 101, 2) := by decide +kernel
theorem d_M_findMoonDate_91 : decode c_M_findMoonDate 91 = .ok (.goto 4, 3) := by decide +kernel
theorem d_M_findMoonDate_94 : decode c_M_findMoonDate 94 = .ok (.iconst 1, 1) := by decide +kernel
theorem d_M_findMoonDate_95 : decode c_M_findMoonDate 95 = .ok (.iadd, 1) := by decide +kernel
theorem d_M_findMoonDate_96 : decode c_M_findMoonDate 96 = .ok (.putfield 217, 3) := by decide +kernel
theorem d_M_findMoonDate_99 : decode c_M_findMoonDate 99 = .ok (.aload_n 0, 1) := by decide +kernel
theorem d_M_findMoonDate_100 : decode c_M_findMoonDate 100 = .ok (.lload_n 3, 1) := by decide +kernel
theorem d_M_findMoonDate_101 : decode c_M_findMoonDate 101 = .ok (.ldc2_w 220, 3) := by decide +kernel
theorem d_M_findMoonDate_104 : decode c_M_findMoonDate 104 = .ok (.lmul, 1) := by decide +kernel
theorem d_M_findMoonDate_105 : decode c_M_findMoonDate 105 = .ok (.ldc2_w 206, 3) := by decide +kernel
theorem d_M_findMoonDate_108 : decode c_M_findMoonDate 108 = .ok (.invokestatic 55, 3) := by decide +kernel
theorem d_M_findMoonDate_111 : decode c_M_findMoonDate 111 = .ok (.ldc2_w 82, 3) := by decide +kernel
theorem d_M_findMoonDate_114 : decode c_M_findMoonDate 114 = .ok (.invokestatic 65, 3) := by decide +kernel
theorem d_M_findMoonDate_117 : decode c_M_findMoonDate 117 = .ok (.l2i, 1) := by decide +kernel
theorem d_M_findMoonDate_118 : decode c_M_findMoonDate 118 = .ok (.iconst 1, 1) := by decide +kernel
theorem d_M_findMoonDate_119 : decode c_M_findMoonDate 119 = .ok (.iadd, 1) := by decide +kernel
theorem d_M_findMoonDate_120 : decode c_M_findMoonDate 120 = .ok (.putfield 222, 3) := by decide +kernel
theorem d_M_findMoonDate_123 : decode c_M_findMoonDate 123 = .ok (.return_, 1) := by decide +kernel
theorem d_M_findPlainYear_0 : decode c_M_findPlainYear 0 = .ok (.lload_n 2, 1) := by decide +kernel
theorem d_M_findPlainYear_1 : decode c_M_findPlainYear 1 = .ok (.aload_n 0, 1) := by decide +kernel
theorem d_M_findPlainYear_2 : decode c_M_findPlainYear 2 = .ok (.iload_n 1, 1) := by decide +kernel
theorem d_M_findPlainYear_3 : decode c_M_findPlainYear 3 = .ok (.invokevirtual 169, 3) := by decide +kernel
theorem d_M_findPlainYear_6 : decode c_M_findPlainYear 6 = .ok (.i2l, 1) := by decide +kernel
theorem d_M_findPlainYear_7 : decode c_M_findPlainYear 7 = .ok (.lsub, 1) := by decide +kernel
theorem d_M_findPlainYear_8 : decode c_M_findPlainYear 8 = .ok (.aload_n 0, 1) := by decide +kernel
theorem d_M_findPlainYear_9 : decode c_M_findPlainYear 9 = .ok (.getfield 13, 3) := by decide +kernel
theorem d_M_findPlainYear_12 : decode c_M_findPlainYear 12 = .ok (.iload_n 1, 1) := by decide +kernel
theorem d_M_findPlainYear_13 : decode c_M_findPlainYear 13 = .ok (.laload, 1) := by decide +kernel
theorem d_M_findPlainYear_14 : decode c_M_findPlainYear 14 = .ok (.invokestatic 55, 3) := by decide +kernel
theorem d_M_findPlainYear_17 : decode c_M_findPlainYear 17 = .ok (.lstore 4, 2) := by decide +kernel
theorem d_M_findPlainYear_19 : decode c_M_findPlainYear 19 = .ok (.lload 4, 2) := by decide +kernel
theorem d_M_findPlainYear_21 : decode c_M_findPlainYear 21 = .ok (.aload_n 0, 1) := by decide +kernel
theorem d_M_findPlainYear_22 : decode c_M_findPlainYear 22 = .ok (.getfield 7, 3) := by decide +kernel
theorem d_M_findPlainYear_25 : decode c_M_findPlainYear 25 = .ok (.iload_n 1, 1) := by decide +kernel
theorem d_M_findPlainYear_26 : decode c_M_findPlainYear 26 = .ok (.iaload, 1) := by decide +kernel
theorem d_M_findPlainYear_27 : decode c_M_findPlainYear 27 = .ok (.i2l, 1) := by decide +kernel
theorem d_M_findPlainYear_28 : decode c_M_findPlainYear 28 = .ok (.lmul, 1) := by decide +kernel
theorem d_M_findPlainYear_29 : decode c_M_findPlainYear 29 = .ok (.lconst 1, 1) := by decide +kernel
theorem d_M_findPlainYear_30 : decode c_M_findPlainYear 30 = .ok (.ladd, 1) := by decide +kernel
theorem d_M_findPlainYear_31 : decode c_M_findPlainYear 31 = .ok (.lstore 6, 2) := by decide +kernel
theorem d_M_findPlainYear_33 : decode c_M_findPlainYear 33 = .ok (.aload_n 0, 1) := by decide +kernel
theorem d_M_findPlainYear_34 : decode c_M_findPlainYear 34 = .ok (.iload_n 1, 1) := by decide +kernel
theorem d_M_findPlainYear_35 : decode c_M_findPlainYear 35 = .ok (.invokevirtual 169, 3) := by decide +kernel
theorem d_M_findPlainYear_38 : decode c_M_findPlainYear 38 = .ok (.i2l, 1) := by decide +kernel
theorem d_M_findPlainYear_39 : decode c_M_findPlainYear 39 = .ok (.lload 4, 2) := by decide +kernel
theorem d_M_findPlainYear_41 : decode c_M_findPlainYear 41 = .ok (.aload_n 0, 1) := by decide +kernel
theorem d_M_findPlainYear_42 : decode c_M_findPlainYear 42 = .ok (.getfield 13, 3) := by decide +kernel
theorem d_M_findPlainYear_45 : decode c_M_findPlainYear 45 = .ok (.iload_n 1, 1) := by decide +kernel
theorem d_M_findPlainYear_46 : decode c_M_findPlainYear 46 = .ok (.laload, 1) := by decide +kernel
theorem d_M_findPlainYear_47 : decode c_M_findPlainYear 47 = .ok (.lmul, 1) := by decide +kernel
theorem d_M_findPlainYear_48 : decode c_M_findPlainYear 48 = .ok (.ladd, 1) := by decide +kernel
theorem d_M_findPlainYear_49 : decode c_M_findPlainYear 49 = .ok (.lstore 8, 2) := by decide +kernel
theorem d_M_findPlainYear_51 : decode c_M_findPlainYear 51 = .ok (.lload 8, 2) := by decide +kernel
theorem d_M_findPlainYear_53 : decode c_M_findPlainYear 53 = .ok (.aload_n 0, 1) := by decide +kernel
theorem d_M_findPlainYear_54 : decode c_M_findPlainYear 54 = .ok (.iload_n 1, 1) := by decide +kernel
theorem d_M_findPlainYear_55 : decode c_M_findPlainYear 55 = .ok (.invokevirtual 130, 3) := by decide +kernel
theorem d_M_findPlainYear_58 : decode c_M_findPlainYear 58 = .ok (.ladd, 1) := by decide +kernel
theorem d_M_findPlainYear_59 : decode c_M_findPlainYear 59 = .ok (.aload_n 0, 1) := by decide +kernel
theorem d_M_findPlainYear_60 : decode c_M_findPlainYear 60 = .ok (.iload_n 1, 1) := by decide +kernel
theorem d_M_findPlainYear_61 : decode c_M_findPlainYear 61 = .ok (.lload 6, 2) := by decide +kernel
theorem d_M_findPlainYear_63 : decode c_M_findPlainYear 63 = .ok (.invokevirtual 102, 3) := by decide +kernel
theorem d_M_findPlainYear_66 : decode c_M_findPlainYear 66 = .ok (.ifCond .eq 7, 3) := by decide +kernel
theorem d_M_findPlainYear_69 : decode c_M_findPlainYear 69 = .ok (.lconst 1, 1) := by decide +kernel
theorem d_M_findPlainYear_70 : decode c_M_findPlainYear 70 = .ok (.goto 4, 3) := by decide +kernel
theorem d_M_findPlainYear_73 : decode c_M_findPlainYear 73 = .ok (.lconst 0, 1) := by decide +kernel
theorem d_M_findPlainYear_74 : decode c_M_findPlainYear 74 = .ok (.ladd, 1) := by decide +kernel
theorem d_M_findPlainYear_75 : decode c_M_findPlainYear 75 = .ok (.lstore 10, 2) := by decide +kernel
theorem d_M_findPlainYear_77 : decode c_M_findPlainYear 77 = .ok (.lload 10, 2) := by decide +kernel
theorem d_M_findPlainYear_79 : decode c_M_findPlainYear 79 = .ok (.lload_n 2, 1) := by decide +kernel
theorem d_M_findPlainYear_80 : decode c_M_findPlainYear 80 = .ok (.lcmp, 1) := by decide +kernel
theorem d_M_findPlainYear_81 : decode c_M_findPlainYear 81 = .ok (.ifCond .gt 42, 3) := by decide +kernel
theorem d_M_findPlainYear_84 : decode c_M_findPlainYear 84 = .ok (.lload 6, 2) := by decide +kernel
theorem d_M_findPlainYear_86 : decode c_M_findPlainYear 86 = .ok (.lconst 1, 1) := by decide +kernel
theorem d_M_findPlainYear_87 : decode c_M_findPlainYear 87 = .ok (.ladd, 1) := by decide +kernel
theorem d_M_findPlainYear_88 : decode c_M_findPlainYear 88 = .ok (.lstore 6, 2) := by decide +kernel
theorem d_M_findPlainYear_90 : decode c_M_findPlainYear 90 = .ok (.lload 10, 2) := by decide +kernel
theorem d_M_findPlainYear_92 : decode c_M_findPlainYear 92 = .ok (.lstore 8, 2) := by decide +kernel
theorem d_M_findPlainYear_94 : decode c_M_findPlainYear 94 = .ok (.lload 8, 2) := by decide +kernel
theorem d_M_findPlainYear_96 : decode c_M_findPlainYear 96 = .ok (.aload_n 0, 1) := by decide +kernel
theorem d_M_findPlainYear_97 : decode c_M_findPlainYear 97 = .ok (.iload_n 1, 1) := by decide +kernel
theorem d_M_findPlainYear_98 : decode c_M_findPlainYear 98 = .ok (.invokevirtual 130, 3) := by decide +kernel
theorem d_M_findPlainYear_101 : decode c_M_findPlainYear 101 = .ok (.ladd, 1) := by decide +kernel
theorem d_M_findPlainYear_102 : decode c_M_findPlainYear 102 = .ok (.aload_n 0, 1) := by decide +kernel
theorem d_M_findPlainYear_103 : decode c_M_findPlainYear 103 = .ok (.iload_n 1, 1) := by decide +kernel
theorem d_M_findPlainYear_104 : decode c_M_findPlainYear 104 = .ok (.lload 6, 2) := by decide +kernel
theorem d_M_findPlainYear_106 : decode c_M_findPlainYear 106 = .ok (.invokevirtual 102, 3) := by decide +kernel
theorem d_M_findPlainYear_109 : decode c_M_findPlainYear 109 = .ok (.ifCond .eq 7, 3) := by decide +kernel
theorem d_M_findPlainYear_112 : decode c_M_findPlainYear 112 = .ok (.lconst 1, 1) := by decide +kernel
theorem d_M_findPlainYear_113 : decode c_M_findPlainYear 113 = .ok (.goto 4, 3) := by decide +kernel
theorem d_M_findPlainYear_116 : decode c_M_findPlainYear 116 = .ok (.lconst 0, 1) := by decide +kernel
theorem d_M_findPlainYear_117 : decode c_M_findPlainYear 117 = .ok (.ladd, 1) := by decide +kernel
theorem d_M_findPlainYear_118 : decode c_M_findPlainYear 118 = .ok (.lstore 10, 2) := by decide +kernel
theorem d_M_findPlainYear_120 : decode c_M_findPlainYear 120 = .ok (.goto (-43), 3) := by decide +kernel
theorem d_M_findPlainYear_123 : decode c_M_findPlainYear 123 = .ok (.aload_n 0, 1) := by decide +kernel
theorem d_M_findPlainYear_124 : decode c_M_findPlainYear 124 = .ok (.iload_n 1, 1) := by decide +kernel
theorem d_M_findPlainYear_125 : decode c_M_findPlainYear 125 = .ok (.lload 6, 2) := by decide +kernel
theorem d_M_findPlainYear_127 : decode c_M_findPlainYear 127 = .ok (.lload 8, 2) := by decide +kernel
theorem d_M_findPlainYear_129 : decode c_M_findPlainYear 129 = .ok (.lload 10, 2) := by decide +kernel
theorem d_M_findPlainYear_131 : decode c_M_findPlainYear 131 = .ok (.invokevirtual 194, 3) := by decide +kernel
theorem d_M_findPlainYear_134 : decode c_M_findPlainYear 134 = .ok (.return_, 1) := by decide +kernel
theorem d_M_findYear_0 : decode c_M_findYear 0 = .ok (.aload_n 0, 1) := by decide +kernel
theorem d_M_findYear_1 : decode c_M_findYear 1 = .ok (.getfield 40, 3) := by decide +kernel
theorem d_M_findYear_4 : decode c_M_findYear 4 = .ok (.iload_n 1, 1) := by decide +kernel
theorem d_M_findYear_5 : decode c_M_findYear 5 = .ok (.if_icmp .ne 22, 3) := by decide +kernel
theorem d_M_findYear_8 : decode c_M_findYear 8 = .ok (.lload_n 2, 1) := by decide +kernel
theorem d_M_findYear_9 : decode c_M_findYear 9 = .ok (.aload_n 0, 1) := by decide +kernel
theorem d_M_findYear_10 : decode c_M_findYear 10 = .ok (.getfield 181, 3) := by decide +kernel
theorem d_M_findYear_13 : decode c_M_findYear 13 = .ok (.lcmp, 1) := by decide +kernel
theorem d_M_findYear_14 : decode c_M_findYear 14 = .ok (.ifCond .lt 13, 3) := by decide +kernel
theorem d_M_findYear_17 : decode c_M_findYear 17 = .ok (.lload_n 2, 1) := by decide +kernel
theorem d_M_findYear_18 : decode c_M_findYear 18 = .ok (.aload_n 0, 1) := by decide +kernel
theorem d_M_findYear_19 : decode c_M_findYear 19 = .ok (.getfield 184, 3) := by decide +kernel
theorem d_M_findYear_22 : decode c_M_findYear 22 = .ok (.lcmp, 1) := by decide +kernel
theorem d_M_findYear_23 : decode c_M_findYear 23 = .ok (.ifCond .ge 4, 3) := by decide +kernel
theorem d_M_findYear_26 : decode c_M_findYear 26 = .ok (.return_, 1) := by decide +kernel
theorem d_M_findYear_27 : decode c_M_findYear 27 = .ok (.iload_n 1, 1) := by decide +kernel
theorem d_M_findYear_28 : decode c_M_findYear 28 = .ok (.iconst 2, 1) := by decide +kernel
theorem d_M_findYear_29 : decode c_M_findYear 29 = .ok (.if_icmp .ne 85, 3) := by decide +kernel
theorem d_M_findYear_32 : decode c_M_findYear 32 = .ok (.aload_n 0, 1) := by decide +kernel
theorem d_M_findYear_33 : decode c_M_findYear 33 = .ok (.iconst 0, 1) := by decide +kernel
theorem d_M_findYear_34 : decode c_M_findYear 34 = .ok (.lload_n 2, 1) := by decide +kernel
theorem d_M_findYear_35 : decode c_M_findYear 35 = .ok (.invokevirtual 187, 3) := by decide +kernel
theorem d_M_findYear_38 : decode c_M_findYear 38 = .ok (.aload_n 0, 1) := by decide +kernel
theorem d_M_findYear_39 : decode c_M_findYear 39 = .ok (.getfield 177, 3) := by decide +kernel
theorem d_M_findYear_42 : decode c_M_findYear 42 = .ok (.lstore 4, 2) := by decide +kernel
theorem d_M_findYear_44 : decode c_M_findYear 44 = .ok (.lload_n 2, 1) := by decide +kernel
theorem d_M_findYear_45 : decode c_M_findYear 45 = .ok (.aload_n 0, 1) := by decide +kernel
theorem d_M_findYear_46 : decode c_M_findYear 46 = .ok (.iconst 2, 1) := by decide +kernel
theorem d_M_findYear_47 : decode c_M_findYear 47 = .ok (.lload 4, 2) := by decide +kernel
theorem d_M_findYear_49 : decode c_M_findYear 49 = .ok (.invokevirtual 191, 3) := by decide +kernel
theorem d_M_findYear_52 : decode c_M_findYear 52 = .ok (.lcmp, 1) := by decide +kernel
theorem d_M_findYear_53 : decode c_M_findYear 53 = .ok (.ifCond .ge 10, 3) := by decide +kernel
theorem d_M_findYear_56 : decode c_M_findYear 56 = .ok (.lload 4, 2) := by decide +kernel
theorem d_M_findYear_58 : decode c_M_findYear 58 = .ok (.lconst 1, 1) := by decide +kernel
theorem d_M_findYear_59 : decode c_M_findYear 59 = .ok (.lsub, 1) := by decide +kernel
theorem d_M_findYear_60 : decode c_M_findYear 60 = .ok (.goto 26, 3) := by decide +kernel
theorem d_M_findYear_63 : decode c_M_findYear 63 = .ok (.lload_n 2, 1) := by decide +kernel
theorem d_M_findYear_64 : decode c_M_findYear 64 = .ok (.aload_n 0, 1) := by decide +kernel
theorem d_M_findYear_65 : decode c_M_findYear 65 = .ok (.iconst 2, 1) := by decide +kernel
theorem d_M_findYear_66 : decode c_M_findYear 66 = .ok (.lload 4, 2) := by decide +kernel
theorem d_M_findYear_68 : decode c_M_findYear 68 = .ok (.lconst 1, 1) := by decide +kernel
theorem d_M_findYear_69 : decode c_M_findYear 69 = .ok (.ladd, 1) := by decide +kernel
theorem d_M_findYear_70 : decode c_M_findYear 70 = .ok (.invokevirtual 191, 3) := by decide +kernel
theorem d_M_findYear_73 : decode c_M_findYear 73 = .ok (.lcmp, 1) := by decide +kernel
theorem d_M_findYear_74 : decode c_M_findYear 74 = .ok (.ifCond .lt 10, 3) := by decide +kernel
theorem d_M_findYear_77 : decode c_M_findYear 77 = .ok (.lload 4, 2) := by decide +kernel
theorem d_M_findYear_79 : decode c_M_findYear 79 = .ok (.lconst 1, 1) := by decide +kernel
theorem d_M_findYear_80 : decode c_M_findYear 80 = .ok (.ladd, 1) := by decide +kernel
theorem d_M_findYear_81 : decode c_M_findYear 81 = .ok (.goto 5, 3) := by decide +kernel
theorem d_M_findYear_84 : decode c_M_findYear 84 = .ok (.lload 4, 2) := by decide +kernel
theorem d_M_findYear_86 : decode c_M_findYear 86 = .ok (.lstore 4, 2) := by decide +kernel
theorem d_M_findYear_88 : decode c_M_findYear 88 = .ok (.aload_n 0, 1) := by decide +kernel
theorem d_M_findYear_89 : decode c_M_findYear 89 = .ok (.iconst 2, 1) := by decide +kernel
theorem d_M_findYear_90 : decode c_M_findYear 90 = .ok (.lload 4, 2) := by decide +kernel
theorem d_M_findYear_92 : decode c_M_findYear 92 = .ok (.aload_n 0, 1) := by decide +kernel
theorem d_M_findYear_93 : decode c_M_findYear 93 = .ok (.iconst 2, 1) := by decide +kernel
theorem d_M_findYear_94 : decode c_M_findYear 94 = .ok (.lload 4, 2) := by decide +kernel
theorem d_M_findYear_96 : decode c_M_findYear 96 = .ok (.invokevirtual 191, 3) := by decide +kernel
theorem d_M_findYear_99 : decode c_M_findYear 99 = .ok (.aload_n 0, 1) := by decide +kernel
theorem d_M_findYear_100 : decode c_M_findYear 100 = .ok (.iconst 2, 1) := by decide +kernel
theorem d_M_findYear_101 : decode c_M_findYear 101 = .ok (.lload 4, 2) := by decide +kernel
theorem d_M_findYear_103 : decode c_M_findYear 103 = .ok (.lconst 1, 1) := by decide +kernel
theorem d_M_findYear_104 : decode c_M_findYear 104 = .ok (.ladd, 1) := by decide +kernel
theorem d_M_findYear_105 : decode c_M_findYear 105 = .ok (.invokevirtual 191, 3) := by decide +kernel
theorem d_M_findYear_108 : decode c_M_findYear 108 = .ok (.invokevirtual 194, 3) := by decide +kernel
theorem d_M_findYear_111 : decode c_M_findYear 111 = .ok (.goto 95, 3) := by decide +kernel
theorem d_M_findYear_114 : decode c_M_findYear 114 = .ok (.iload_n 1, 1) := by decide +kernel
theorem d_M_findYear_115 : decode c_M_findYear 115 = .ok (.bipush 9, 2) := by decide +kernel
theorem d_M_findYear_117 : decode c_M_findYear 117 = .ok (.if_icmp .ne 83, 3) := by decide +kernel
theorem d_M_findYear_120 : decode c_M_findYear 120 = .ok (.lload_n 2, 1) := by decide +kernel
theorem d_M_findYear_121 : decode c_M_findYear 121 = .ok (.ldc2_w 150, 3) := by decide +kernel
theorem d_M_findYear_124 : decode c_M_findYear 124 = .ok (.ladd, 1) := by decide +kernel
theorem d_M_findYear_125 : decode c_M_findYear 125 = .ok (.ldc2_w 198, 3) := by decide +kernel
theorem d_M_findYear_128 : decode c_M_findYear 128 = .ok (.lmul, 1) := by decide +kernel
theorem d_M_findYear_129 : decode c_M_findYear 129 = .ok (.ldc2_w 200, 3) := by decide +kernel
theorem d_M_findYear_132 : decode c_M_findYear 132 = .ok (.invokestatic 55, 3) := by decide +kernel
theorem d_M_findYear_135 : decode c_M_findYear 135 = .ok (.lstore 4, 2) := by decide +kernel
theorem d_M_findYear_137 : decode c_M_findYear 137 = .ok (.lload 4, 2) := by decide +kernel
theorem d_M_findYear_139 : decode c_M_findYear 139 = .ok (.lconst 1, 1) := by decide +kernel
theorem d_M_findYear_140 : decode c_M_findYear 140 = .ok (.ladd, 1) := by decide +kernel
theorem d_M_findYear_141 : decode c_M_findYear 141 = .ok (.invokestatic 158, 3) := by decide +kernel
theorem d_M_findYear_144 : decode c_M_findYear 144 = .ok (.lload_n 2, 1) := by decide +kernel
theorem d_M_findYear_145 : decode c_M_findYear 145 = .ok (.lcmp, 1) := by decide +kernel
theorem d_M_findYear_146 : decode c_M_findYear 146 = .ok (.ifCond .gt 12, 3) := by decide +kernel
theorem d_M_findYear_149 : decode c_M_findYear 149 = .ok (.lload 4, 2) := by decide +kernel
theorem d_M_findYear_151 : decode c_M_findYear 151 = .ok (.lconst 1, 1) := by decide +kernel
theorem d_M_findYear_152 : decode c_M_findYear 152 = .ok (.ladd, 1) := by decide +kernel
theorem d_M_findYear_153 : decode c_M_findYear 153 = .ok (.lstore 4, 2) := by decide +kernel
theorem d_M_findYear_155 : decode c_M_findYear 155 = .ok (.goto (-18), 3) := by decide +kernel
theorem d_M_findYear_158 : decode c_M_findYear 158 = .ok (.lload 4, 2) := by decide +kernel
theorem d_M_findYear_160 : decode c_M_findYear 160 = .ok (.invokestatic 158, 3) := by decide +kernel
theorem d_M_findYear_163 : decode c_M_findYear 163 = .ok (.lload_n 2, 1) := by decide +kernel
theorem d_M_findYear_164 : decode c_M_findYear 164 = .ok (.lcmp, 1) := by decide +kernel
theorem d_M_findYear_165 : decode c_M_findYear 165 = .ok (.ifCond .le 12, 3) := by decide +kernel
theorem d_M_findYear_168 : decode c_M_findYear 168 = .ok (.lload 4, 2) := by decide +kernel
theorem d_M_findYear_170 : decode c_M_findYear 170 = .ok (.lconst 1, 1) := by decide +kernel
theorem d_M_findYear_171 : decode c_M_findYear 171 = .ok (.lsub, 1) := by decide +kernel
theorem d_M_findYear_172 : decode c_M_findYear 172 = .ok (.lstore 4, 2) := by decide +kernel
theorem d_M_findYear_174 : decode c_M_findYear 174 = .ok (.goto (-16), 3) := by decide +kernel
theorem d_M_findYear_177 : decode c_M_findYear 177 = .ok (.aload_n 0, 1) := by decide +kernel
theorem d_M_findYear_178 : decode c_M_findYear 178 = .ok (.bipush 9, 2) := by decide +kernel
theorem d_M_findYear_180 : decode c_M_findYear 180 = .ok (.lload 4, 2) := by decide +kernel
theorem d_M_findYear_182 : decode c_M_findYear 182 = .ok (.lload 4, 2) := by decide +kernel
theorem d_M_findYear_184 : decode c_M_findYear 184 = .ok (.invokestatic 158, 3) := by decide +kernel
theorem d_M_findYear_187 : decode c_M_findYear 187 = .ok (.lload 4, 2) := by decide +kernel
theorem d_M_findYear_189 : decode c_M_findYear 189 = .ok (.lconst 1, 1) := by decide +kernel
theorem d_M_findYear_190 : decode c_M_findYear 190 = .ok (.ladd, 1) := by decide +kernel
theorem d_M_findYear_191 : decode c_M_findYear 191 = .ok (.invokestatic 158, 3) := by decide +kernel
theorem d_M_findYear_194 : decode c_M_findYear 194 = .ok (.invokevirtual 194, 3) := by decide +kernel
theorem d_M_findYear_197 : decode c_M_findYear 197 = .ok (.goto 9, 3) := by decide +kernel
theorem d_M_findYear_200 : decode c_M_findYear 200 = .ok (.aload_n 0, 1) := by decide +kernel
theorem d_M_findYear_201 : decode c_M_findYear 201 = .ok (.iload_n 1, 1) := by decide +kernel
theorem d_M_findYear_202 : decode c_M_findYear 202 = .ok (.lload_n 2, 1) := by decide +kernel
theorem d_M_findYear_203 : decode c_M_findYear 203 = .ok (.invokevirtual 187, 3) := by decide +kernel
theorem d_M_findYear_206 : decode c_M_findYear 206 = .ok (.return_, 1) := by decide +kernel
theorem d_M_fixed_0 : decode c_M_fixed 0 = .ok (.aload_n 0, 1) := by decide +kernel
theorem d_M_fixed_1 : decode c_M_fixed 1 = .ok (.aload_n 0, 1) := by decide +kernel
theorem d_M_fixed_2 : decode c_M_fixed 2 = .ok (.iload_n 1, 1) := by decide +kernel
theorem d_M_fixed_3 : decode c_M_fixed 3 = .ok (.invokevirtual 269, 3) := by decide +kernel
theorem d_M_fixed_6 : decode c_M_fixed 6 = .ok (.ifCond .ne 7, 3) := by decide +kernel
theorem d_M_fixed_9 : decode c_M_fixed 9 = .ok (.iconst 1, 1) := by decide +kernel
theorem d_M_fixed_10 : decode c_M_fixed 10 = .ok (.goto 15, 3) := by decide +kernel
theorem d_M_fixed_13 : decode c_M_fixed 13 = .ok (.iload_n 2, 1) := by decide +kernel
theorem d_M_fixed_14 : decode c_M_fixed 14 = .ok (.invokestatic 277, 3) := by decide +kernel
theorem d_M_fixed_17 : decode c_M_fixed 17 = .ok (.ifCond .ne 7, 3) := by decide +kernel
theorem d_M_fixed_20 : decode c_M_fixed 20 = .ok (.iconst 2, 1) := by decide +kernel
theorem d_M_fixed_21 : decode c_M_fixed 21 = .ok (.goto 4, 3) := by decide +kernel
theorem d_M_fixed_24 : decode c_M_fixed 24 = .ok (.iconst 0, 1) := by decide +kernel
theorem d_M_fixed_25 : decode c_M_fixed 25 = .ok (.putfield 52, 3) := by decide +kernel
theorem d_M_fixed_28 : decode c_M_fixed 28 = .ok (.aload_n 0, 1) := by decide +kernel
theorem d_M_fixed_29 : decode c_M_fixed 29 = .ok (.getfield 52, 3) := by decide +kernel
theorem d_M_fixed_32 : decode c_M_fixed 32 = .ok (.ifCond .le 5, 3) := by decide +kernel
theorem d_M_fixed_35 : decode c_M_fixed 35 = .ok (.iconst 0, 1) := by decide +kernel
theorem d_M_fixed_36 : decode c_M_fixed 36 = .ok (.ireturn, 1) := by decide +kernel
theorem d_M_fixed_37 : decode c_M_fixed 37 = .ok (.aload_n 0, 1) := by decide +kernel
theorem d_M_fixed_38 : decode c_M_fixed 38 = .ok (.iload_n 1, 1) := by decide +kernel
theorem d_M_fixed_39 : decode c_M_fixed 39 = .ok (.iload_n 2, 1) := by decide +kernel
theorem d_M_fixed_40 : decode c_M_fixed 40 = .ok (.iload_n 3, 1) := by decide +kernel
theorem d_M_fixed_41 : decode c_M_fixed 41 = .ok (.iload 4, 2) := by decide +kernel
theorem d_M_fixed_43 : decode c_M_fixed 43 = .ok (.invokevirtual 280, 3) := by decide +kernel
theorem d_M_fixed_46 : decode c_M_fixed 46 = .ok (.lstore 5, 2) := by decide +kernel
theorem d_M_fixed_48 : decode c_M_fixed 48 = .ok (.aload_n 0, 1) := by decide +kernel
theorem d_M_fixed_49 : decode c_M_fixed 49 = .ok (.lload 5, 2) := by decide +kernel
theorem d_M_fixed_51 : decode c_M_fixed 51 = .ok (.ldc2_w 250, 3) := by decide +kernel
theorem d_M_fixed_54 : decode c_M_fixed 54 = .ok (.lcmp, 1) := by decide +kernel
theorem d_M_fixed_55 : decode c_M_fixed 55 = .ok (.ifCond .ne 7, 3) := by decide +kernel
theorem d_M_fixed_58 : decode c_M_fixed 58 = .ok (.iconst 3, 1) := by decide +kernel
theorem d_M_fixed_59 : decode c_M_fixed 59 = .ok (.goto 16, 3) := by decide +kernel
theorem d_M_fixed_62 : decode c_M_fixed 62 = .ok (.lload 5, 2) := by decide +kernel
theorem d_M_fixed_64 : decode c_M_fixed 64 = .ok (.invokestatic 272, 3) := by decide +kernel
theorem d_M_fixed_67 : decode c_M_fixed 67 = .ok (.ifCond .ne 7, 3) := by decide +kernel
theorem d_M_fixed_70 : decode c_M_fixed 70 = .ok (.iconst 2, 1) := by decide +kernel
theorem d_M_fixed_71 : decode c_M_fixed 71 = .ok (.goto 4, 3) := by decide +kernel
theorem d_M_fixed_74 : decode c_M_fixed 74 = .ok (.iconst 0, 1) := by decide +kernel
theorem d_M_fixed_75 : decode c_M_fixed 75 = .ok (.putfield 52, 3) := by decide +kernel
theorem d_M_fixed_78 : decode c_M_fixed 78 = .ok (.aload_n 0, 1) := by decide +kernel
theorem d_M_fixed_79 : decode c_M_fixed 79 = .ok (.getfield 52, 3) := by decide +kernel
theorem d_M_fixed_82 : decode c_M_fixed 82 = .ok (.ifCond .le 7, 3) := by decide +kernel
theorem d_M_fixed_85 : decode c_M_fixed 85 = .ok (.iconst 0, 1) := by decide +kernel
theorem d_M_fixed_86 : decode c_M_fixed 86 = .ok (.goto 6, 3) := by decide +kernel
theorem d_M_fixed_89 : decode c_M_fixed 89 = .ok (.lload 5, 2) := by decide +kernel
theorem d_M_fixed_91 : decode c_M_fixed 91 = .ok (.l2i, 1) := by decide +kernel
theorem d_M_fixed_92 : decode c_M_fixed 92 = .ok (.ireturn, 1) := by decide +kernel
theorem d_M_hasCalendar_0 : decode c_M_hasCalendar 0 = .ok (.iload_n 1, 1) := by decide +kernel
theorem d_M_hasCalendar_1 : decode c_M_hasCalendar 1 = .ok (.ifCond .lt 9, 3) := by decide +kernel
theorem d_M_hasCalendar_4 : decode c_M_hasCalendar 4 = .ok (.iload_n 1, 1) := by decide +kernel
theorem d_M_hasCalendar_5 : decode c_M_hasCalendar 5 = .ok (.bipush 11, 2) := by decide +kernel
theorem d_M_hasCalendar_7 : decode c_M_hasCalendar 7 = .ok (.if_icmp .le 27, 3) := by decide +kernel
theorem d_M_hasCalendar_10 : decode c_M_hasCalendar 10 = .ok (.iload_n 1, 1) := by decide +kernel
theorem d_M_hasCalendar_11 : decode c_M_hasCalendar 11 = .ok (.bipush 12, 2) := by decide +kernel
theorem d_M_hasCalendar_13 : decode c_M_hasCalendar 13 = .ok (.if_icmp .lt 25, 3) := by decide +kernel
theorem d_M_hasCalendar_16 : decode c_M_hasCalendar 16 = .ok (.iload_n 1, 1) := by decide +kernel
theorem d_M_hasCalendar_17 : decode c_M_hasCalendar 17 = .ok (.bipush 13, 2) := by decide +kernel
theorem d_M_hasCalendar_19 : decode c_M_hasCalendar 19 = .ok (.if_icmp .gt 19, 3) := by decide +kernel
theorem d_M_hasCalendar_22 : decode c_M_hasCalendar 22 = .ok (.aload_n 0, 1) := by decide +kernel
theorem d_M_hasCalendar_23 : decode c_M_hasCalendar 23 = .ok (.getfield 17, 3) := by decide +kernel
theorem d_M_hasCalendar_26 : decode c_M_hasCalendar 26 = .ok (.iload_n 1, 1) := by decide +kernel
theorem d_M_hasCalendar_27 : decode c_M_hasCalendar 27 = .ok (.bipush 12, 2) := by decide +kernel
theorem d_M_hasCalendar_29 : decode c_M_hasCalendar 29 = .ok (.isub, 1) := by decide +kernel
theorem d_M_hasCalendar_30 : decode c_M_hasCalendar 30 = .ok (.baload, 1) := by decide +kernel
theorem d_M_hasCalendar_31 : decode c_M_hasCalendar 31 = .ok (.ifCond .eq 7, 3) := by decide +kernel
theorem d_M_hasCalendar_34 : decode c_M_hasCalendar 34 = .ok (.iconst 1, 1) := by decide +kernel
theorem d_M_hasCalendar_35 : decode c_M_hasCalendar 35 = .ok (.goto 4, 3) := by decide +kernel
theorem d_M_hasCalendar_38 : decode c_M_hasCalendar 38 = .ok (.iconst 0, 1) := by decide +kernel
theorem d_M_hasCalendar_39 : decode c_M_hasCalendar 39 = .ok (.ireturn, 1) := by decide +kernel
theorem d_M_hasDate_0 : decode c_M_hasDate 0 = .ok (.aload_n 0, 1) := by decide +kernel
theorem d_M_hasDate_1 : decode c_M_hasDate 1 = .ok (.iload_n 1, 1) := by decide +kernel
theorem d_M_hasDate_2 : decode c_M_hasDate 2 = .ok (.lload 5, 2) := by decide +kernel
theorem d_M_hasDate_4 : decode c_M_hasDate 4 = .ok (.invokevirtual 243, 3) := by decide +kernel
theorem d_M_hasDate_7 : decode c_M_hasDate 7 = .ok (.aload_n 0, 1) := by decide +kernel
theorem d_M_hasDate_8 : decode c_M_hasDate 8 = .ok (.getfield 212, 3) := by decide +kernel
theorem d_M_hasDate_11 : decode c_M_hasDate 11 = .ok (.iload_n 2, 1) := by decide +kernel
theorem d_M_hasDate_12 : decode c_M_hasDate 12 = .ok (.i2l, 1) := by decide +kernel
theorem d_M_hasDate_13 : decode c_M_hasDate 13 = .ok (.lcmp, 1) := by decide +kernel
theorem d_M_hasDate_14 : decode c_M_hasDate 14 = .ok (.ifCond .ne 24, 3) := by decide +kernel
theorem d_M_hasDate_17 : decode c_M_hasDate 17 = .ok (.aload_n 0, 1) := by decide +kernel
theorem d_M_hasDate_18 : decode c_M_hasDate 18 = .ok (.getfield 217, 3) := by decide +kernel
theorem d_M_hasDate_21 : decode c_M_hasDate 21 = .ok (.iload_n 3, 1) := by decide +kernel
theorem d_M_hasDate_22 : decode c_M_hasDate 22 = .ok (.if_icmp .ne 16, 3) := by decide +kernel
theorem d_M_hasDate_25 : decode c_M_hasDate 25 = .ok (.aload_n 0, 1) := by decide +kernel
theorem d_M_hasDate_26 : decode c_M_hasDate 26 = .ok (.getfield 222, 3) := by decide +kernel
theorem d_M_hasDate_29 : decode c_M_hasDate 29 = .ok (.iload 4, 2) := by decide +kernel
theorem d_M_hasDate_31 : decode c_M_hasDate 31 = .ok (.if_icmp .ne 7, 3) := by decide +kernel
theorem d_M_hasDate_34 : decode c_M_hasDate 34 = .ok (.iconst 1, 1) := by decide +kernel
theorem d_M_hasDate_35 : decode c_M_hasDate 35 = .ok (.goto 4, 3) := by decide +kernel
theorem d_M_hasDate_38 : decode c_M_hasDate 38 = .ok (.iconst 0, 1) := by decide +kernel
theorem d_M_hasDate_39 : decode c_M_hasDate 39 = .ok (.ireturn, 1) := by decide +kernel
theorem d_M_inRange_0 : decode c_M_inRange 0 = .ok (.lload_n 0, 1) := by decide +kernel
theorem d_M_inRange_1 : decode c_M_inRange 1 = .ok (.ldc2_w 263, 3) := by decide +kernel
theorem d_M_inRange_4 : decode c_M_inRange 4 = .ok (.lcmp, 1) := by decide +kernel
theorem d_M_inRange_5 : decode c_M_inRange 5 = .ok (.ifCond .lt 15, 3) := by decide +kernel
theorem d_M_inRange_8 : decode c_M_inRange 8 = .ok (.lload_n 0, 1) := by decide +kernel
theorem d_M_inRange_9 : decode c_M_inRange 9 = .ok (.ldc2_w 265, 3) := by decide +kernel
theorem d_M_inRange_12 : decode c_M_inRange 12 = .ok (.lcmp, 1) := by decide +kernel
theorem d_M_inRange_13 : decode c_M_inRange 13 = .ok (.ifCond .gt 7, 3) := by decide +kernel
theorem d_M_inRange_16 : decode c_M_inRange 16 = .ok (.iconst 1, 1) := by decide +kernel
theorem d_M_inRange_17 : decode c_M_inRange 17 = .ok (.goto 4, 3) := by decide +kernel
theorem d_M_inRange_20 : decode c_M_inRange 20 = .ok (.iconst 0, 1) := by decide +kernel
theorem d_M_inRange_21 : decode c_M_inRange 21 = .ok (.ireturn, 1) := by decide +kernel
theorem d_M_isLeap_0 : decode c_M_isLeap 0 = .ok (.iload_n 1, 1) := by decide +kernel
theorem d_M_isLeap_1 : decode c_M_isLeap 1 = .ok (.tableswitch 224 0 9 #[55, 60, 224, 78, 78, 98, 126, 164, 189, 198], 55) := by decide +kernel
theorem d_M_isLeap_56 : decode c_M_isLeap 56 = .ok (.lload_n 2, 1) := by decide +kernel
theorem d_M_isLeap_57 : decode c_M_isLeap 57 = .ok (.invokestatic 72, 3) := by decide +kernel
theorem d_M_isLeap_60 : decode c_M_isLeap 60 = .ok (.ireturn, 1) := by decide +kernel
theorem d_M_isLeap_61 : decode c_M_isLeap 61 = .ok (.lload_n 2, 1) := by decide +kernel
theorem d_M_isLeap_62 : decode c_M_isLeap 62 = .ok (.ldc2_w 63, 3) := by decide +kernel
theorem d_M_isLeap_65 : decode c_M_isLeap 65 = .ok (.invokestatic 65, 3) := by decide +kernel
theorem d_M_isLeap_68 : decode c_M_isLeap 68 = .ok (.lconst 0, 1) := by decide +kernel
theorem d_M_isLeap_69 : decode c_M_isLeap 69 = .ok (.lcmp, 1) := by decide +kernel
theorem d_M_isLeap_70 : decode c_M_isLeap 70 = .ok (.ifCond .ne 7, 3) := by decide +kernel
theorem d_M_isLeap_73 : decode c_M_isLeap 73 = .ok (.iconst 1, 1) := by decide +kernel
theorem d_M_isLeap_74 : decode c_M_isLeap 74 = .ok (.goto 4, 3) := by decide +kernel
theorem d_M_isLeap_77 : decode c_M_isLeap 77 = .ok (.iconst 0, 1) := by decide +kernel
theorem d_M_isLeap_78 : decode c_M_isLeap 78 = .ok (.ireturn, 1) := by decide +kernel
theorem d_M_isLeap_79 : decode c_M_isLeap 79 = .ok (.lload_n 2, 1) := by decide +kernel
theorem d_M_isLeap_80 : decode c_M_isLeap 80 = .ok (.ldc2_w 63, 3) := by decide +kernel
theorem d_M_isLeap_83 : decode c_M_isLeap 83 = .ok (.invokestatic 65, 3) := by decide +kernel
theorem d_M_isLeap_86 : decode c_M_isLeap 86 = .ok (.ldc2_w 76, 3) := by decide +kernel
theorem d_M_isLeap_89 : decode c_M_isLeap 89 = .ok (.lcmp, 1) := by decide +kernel
theorem d_M_isLeap_90 : decode c_M_isLeap 90 = .ok (.ifCond .ne 7, 3) := by decide +kernel
theorem d_M_isLeap_93 : decode c_M_isLeap 93 = .ok (.iconst 1, 1) := by decide +kernel
theorem d_M_isLeap_94 : decode c_M_isLeap 94 = .ok (.goto 4, 3) := by decide +kernel
theorem d_M_isLeap_97 : decode c_M_isLeap 97 = .ok (.iconst 0, 1) := by decide +kernel
theorem d_M_isLeap_98 : decode c_M_isLeap 98 = .ok (.ireturn, 1) := by decide +kernel
theorem d_M_isLeap_99 : decode c_M_isLeap 99 = .ok (.ldc2_w 78, 3) := by decide +kernel
theorem d_M_isLeap_102 : decode c_M_isLeap 102 = .ok (.lload_n 2, 1) := by decide +kernel
theorem d_M_isLeap_103 : decode c_M_isLeap 103 = .ok (.lmul, 1) := by decide +kernel
theorem d_M_isLeap_104 : decode c_M_isLeap 104 = .ok (.ldc2_w 80, 3) := by decide +kernel
theorem d_M_isLeap_107 : decode c_M_isLeap 107 = .ok (.ladd, 1) := by decide +kernel
theorem d_M_isLeap_108 : decode c_M_isLeap 108 = .ok (.ldc2_w 82, 3) := by decide +kernel
theorem d_M_isLeap_111 : decode c_M_isLeap 111 = .ok (.invokestatic 65, 3) := by decide +kernel
theorem d_M_isLeap_114 : decode c_M_isLeap 114 = .ok (.ldc2_w 78, 3) := by decide +kernel
theorem d_M_isLeap_117 : decode c_M_isLeap 117 = .ok (.lcmp, 1) := by decide +kernel
theorem d_M_isLeap_118 : decode c_M_isLeap 118 = .ok (.ifCond .ge 7, 3) := by decide +kernel
theorem d_M_isLeap_121 : decode c_M_isLeap 121 = .ok (.iconst 1, 1) := by decide +kernel
theorem d_M_isLeap_122 : decode c_M_isLeap 122 = .ok (.goto 4, 3) := by decide +kernel
theorem d_M_isLeap_125 : decode c_M_isLeap 125 = .ok (.iconst 0, 1) := by decide +kernel
theorem d_M_isLeap_126 : decode c_M_isLeap 126 = .ok (.ireturn, 1) := by decide +kernel
theorem d_M_isLeap_127 : decode c_M_isLeap 127 = .ok (.lload_n 2, 1) := by decide +kernel
theorem d_M_isLeap_128 : decode c_M_isLeap 128 = .ok (.ldc2_w 84, 3) := by decide +kernel
theorem d_M_isLeap_131 : decode c_M_isLeap 131 = .ok (.lsub, 1) := by decide +kernel
theorem d_M_isLeap_132 : decode c_M_isLeap 132 = .ok (.ldc2_w 86, 3) := by decide +kernel
theorem d_M_isLeap_135 : decode c_M_isLeap 135 = .ok (.invokestatic 65, 3) := by decide +kernel
theorem d_M_isLeap_138 : decode c_M_isLeap 138 = .ok (.ldc2_w 88, 3) := by decide +kernel
theorem d_M_isLeap_141 : decode c_M_isLeap 141 = .ok (.ladd, 1) := by decide +kernel
theorem d_M_isLeap_142 : decode c_M_isLeap 142 = .ok (.ldc2_w 90, 3) := by decide +kernel
theorem d_M_isLeap_145 : decode c_M_isLeap 145 = .ok (.lmul, 1) := by decide +kernel
theorem d_M_isLeap_146 : decode c_M_isLeap 146 = .ok (.ldc2_w 92, 3) := by decide +kernel
theorem d_M_isLeap_149 : decode c_M_isLeap 149 = .ok (.invokestatic 65, 3) := by decide +kernel
theorem d_M_isLeap_152 : decode c_M_isLeap 152 = .ok (.ldc2_w 90, 3) := by decide +kernel
theorem d_M_isLeap_155 : decode c_M_isLeap 155 = .ok (.lcmp, 1) := by decide +kernel
theorem d_M_isLeap_156 : decode c_M_isLeap 156 = .ok (.ifCond .ge 7, 3) := by decide +kernel
theorem d_M_isLeap_159 : decode c_M_isLeap 159 = .ok (.iconst 1, 1) := by decide +kernel
theorem d_M_isLeap_160 : decode c_M_isLeap 160 = .ok (.goto 4, 3) := by decide +kernel
theorem d_M_isLeap_163 : decode c_M_isLeap 163 = .ok (.iconst 0, 1) := by decide +kernel
theorem d_M_isLeap_164 : decode c_M_isLeap 164 = .ok (.ireturn, 1) := by decide +kernel
theorem d_M_isLeap_165 : decode c_M_isLeap 165 = .ok (.lload_n 2, 1) := by decide +kernel
theorem d_M_isLeap_166 : decode c_M_isLeap 166 = .ok (.invokestatic 72, 3) := by decide +kernel
theorem d_M_isLeap_169 : decode c_M_isLeap 169 = .ok (.ifCond .eq 19, 3) := by decide +kernel
theorem d_M_isLeap_172 : decode c_M_isLeap 172 = .ok (.lload_n 2, 1) := by decide +kernel
theorem d_M_isLeap_173 : decode c_M_isLeap 173 = .ok (.ldc2_w 94, 3) := by decide +kernel
theorem d_M_isLeap_176 : decode c_M_isLeap 176 = .ok (.invokestatic 65, 3) := by decide +kernel
theorem d_M_isLeap_179 : decode c_M_isLeap 179 = .ok (.lconst 0, 1) := by decide +kernel
theorem d_M_isLeap_180 : decode c_M_isLeap 180 = .ok (.lcmp, 1) := by decide +kernel
theorem d_M_isLeap_181 : decode c_M_isLeap 181 = .ok (.ifCond .eq 7, 3) := by decide +kernel
theorem d_M_isLeap_184 : decode c_M_isLeap 184 = .ok (.iconst 1, 1) := by decide +kernel
theorem d_M_isLeap_185 : decode c_M_isLeap 185 = .ok (.goto 4, 3) := by decide +kernel
theorem d_M_isLeap_188 : decode c_M_isLeap 188 = .ok (.iconst 0, 1) := by decide +kernel
theorem d_M_isLeap_189 : decode c_M_isLeap 189 = .ok (.ireturn, 1) := by decide +kernel
theorem d_M_isLeap_190 : decode c_M_isLeap 190 = .ok (.lload_n 2, 1) := by decide +kernel
theorem d_M_isLeap_191 : decode c_M_isLeap 191 = .ok (.ldc2_w 96, 3) := by decide +kernel
theorem d_M_isLeap_194 : decode c_M_isLeap 194 = .ok (.ladd, 1) := by decide +kernel
theorem d_M_isLeap_195 : decode c_M_isLeap 195 = .ok (.invokestatic 72, 3) := by decide +kernel
theorem d_M_isLeap_198 : decode c_M_isLeap 198 = .ok (.ireturn, 1) := by decide +kernel
theorem d_M_isLeap_199 : decode c_M_isLeap 199 = .ok (.ldc2_w 98, 3) := by decide +kernel
theorem d_M_isLeap_202 : decode c_M_isLeap 202 = .ok (.lload_n 2, 1) := by decide +kernel
theorem d_M_isLeap_203 : decode c_M_isLeap 203 = .ok (.lmul, 1) := by decide +kernel
theorem d_M_isLeap_204 : decode c_M_isLeap 204 = .ok (.lconst 1, 1) := by decide +kernel
theorem d_M_isLeap_205 : decode c_M_isLeap 205 = .ok (.ladd, 1) := by decide +kernel
theorem d_M_isLeap_206 : decode c_M_isLeap 206 = .ok (.ldc2_w 100, 3) := by decide +kernel
theorem d_M_isLeap_209 : decode c_M_isLeap 209 = .ok (.invokestatic 65, 3) := by decide +kernel
theorem d_M_isLeap_212 : decode c_M_isLeap 212 = .ok (.ldc2_w 98, 3) := by decide +kernel
theorem d_M_isLeap_215 : decode c_M_isLeap 215 = .ok (.lcmp, 1) := by decide +kernel
theorem d_M_isLeap_216 : decode c_M_isLeap 216 = .ok (.ifCond .ge 7, 3) := by decide +kernel
theorem d_M_isLeap_219 : decode c_M_isLeap 219 = .ok (.iconst 1, 1) := by decide +kernel
theorem d_M_isLeap_220 : decode c_M_isLeap 220 = .ok (.goto 4, 3) := by decide +kernel
theorem d_M_isLeap_223 : decode c_M_isLeap 223 = .ok (.iconst 0, 1) := by decide +kernel
theorem d_M_isLeap_224 : decode c_M_isLeap 224 = .ok (.ireturn, 1) := by decide +kernel
theorem d_M_isLeap_225 : decode c_M_isLeap 225 = .ok (.aload_n 0, 1) := by decide +kernel
theorem d_M_isLeap_226 : decode c_M_isLeap 226 = .ok (.getfield 30, 3) := by decide +kernel
theorem d_M_isLeap_229 : decode c_M_isLeap 229 = .ok (.iload_n 1, 1) := by decide +kernel
theorem d_M_isLeap_230 : decode c_M_isLeap 230 = .ok (.bipush 12, 2) := by decide +kernel
theorem d_M_isLeap_232 : decode c_M_isLeap 232 = .ok (.isub, 1) := by decide +kernel
theorem d_M_isLeap_233 : decode c_M_isLeap 233 = .ok (.iaload, 1) := by decide +kernel
theorem d_M_isLeap_234 : decode c_M_isLeap 234 = .ok (.i2l, 1) := by decide +kernel
theorem d_M_isLeap_235 : decode c_M_isLeap 235 = .ok (.lload_n 2, 1) := by decide +kernel
theorem d_M_isLeap_236 : decode c_M_isLeap 236 = .ok (.lmul, 1) := by decide +kernel
theorem d_M_isLeap_237 : decode c_M_isLeap 237 = .ok (.aload_n 0, 1) := by decide +kernel
theorem d_M_isLeap_238 : decode c_M_isLeap 238 = .ok (.getfield 33, 3) := by decide +kernel
theorem d_M_isLeap_241 : decode c_M_isLeap 241 = .ok (.iload_n 1, 1) := by decide +kernel
theorem d_M_isLeap_242 : decode c_M_isLeap 242 = .ok (.bipush 12, 2) := by decide +kernel
theorem d_M_isLeap_244 : decode c_M_isLeap 244 = .ok (.isub, 1) := by decide +kernel
theorem d_M_isLeap_245 : decode c_M_isLeap 245 = .ok (.iaload, 1) := by decide +kernel
theorem d_M_isLeap_246 : decode c_M_isLeap 246 = .ok (.i2l, 1) := by decide +kernel
theorem d_M_isLeap_247 : decode c_M_isLeap 247 = .ok (.ladd, 1) := by decide +kernel
theorem d_M_isLeap_248 : decode c_M_isLeap 248 = .ok (.aload_n 0, 1) := by decide +kernel
theorem d_M_isLeap_249 : decode c_M_isLeap 249 = .ok (.getfield 36, 3) := by decide +kernel
theorem d_M_isLeap_252 : decode c_M_isLeap 252 = .ok (.iload_n 1, 1) := by decide +kernel
theorem d_M_isLeap_253 : decode c_M_isLeap 253 = .ok (.bipush 12, 2) := by decide +kernel
theorem d_M_isLeap_255 : decode c_M_isLeap 255 = .ok (.isub, 1) := by decide +kernel
theorem d_M_isLeap_256 : decode c_M_isLeap 256 = .ok (.iaload, 1) := by decide +kernel
theorem d_M_isLeap_257 : decode c_M_isLeap 257 = .ok (.i2l, 1) := by decide +kernel
theorem d_M_isLeap_258 : decode c_M_isLeap 258 = .ok (.invokestatic 65, 3) := by decide +kernel
theorem d_M_isLeap_261 : decode c_M_isLeap 261 = .ok (.aload_n 0, 1) := by decide +kernel
theorem d_M_isLeap_262 : decode c_M_isLeap 262 = .ok (.getfield 30, 3) := by decide +kernel
theorem d_M_isLeap_265 : decode c_M_isLeap 265 = .ok (.iload_n 1, 1) := by decide +kernel
theorem d_M_isLeap_266 : decode c_M_isLeap 266 = .ok (.bipush 12, 2) := by decide +kernel
theorem d_M_isLeap_268 : decode c_M_isLeap 268 = .ok (.isub, 1) := by decide +kernel
theorem d_M_isLeap_269 : decode c_M_isLeap 269 = .ok (.iaload, 1) := by decide +kernel
theorem d_M_isLeap_270 : decode c_M_isLeap 270 = .ok (.i2l, 1) := by decide +kernel
theorem d_M_isLeap_271 : decode c_M_isLeap 271 = .ok (.lcmp, 1) := by decide +kernel
theorem d_M_isLeap_272 : decode c_M_isLeap 272 = .ok (.ifCond .ge 7, 3) := by decide +kernel
theorem d_M_isLeap_275 : decode c_M_isLeap 275 = .ok (.iconst 1, 1) := by decide +kernel
theorem d_M_isLeap_276 : decode c_M_isLeap 276 = .ok (.goto 4, 3) := by decide +kernel
theorem d_M_isLeap_279 : decode c_M_isLeap 279 = .ok (.iconst 0, 1) := by decide +kernel
theorem d_M_isLeap_280 : decode c_M_isLeap 280 = .ok (.ireturn, 1) := by decide +kernel
theorem d_M_isYear_0 : decode c_M_isYear 0 = .ok (.iload_n 0, 1) := by decide +kernel
theorem d_M_isYear_1 : decode c_M_isYear 1 = .ok (.ldc_w 275, 3) := by decide +kernel
theorem d_M_isYear_4 : decode c_M_isYear 4 = .ok (.if_icmp .lt 14, 3) := by decide +kernel
theorem d_M_isYear_7 : decode c_M_isYear 7 = .ok (.iload_n 0, 1) := by decide +kernel
theorem d_M_isYear_8 : decode c_M_isYear 8 = .ok (.ldc_w 276, 3) := by decide +kernel
theorem d_M_isYear_11 : decode c_M_isYear 11 = .ok (.if_icmp .gt 7, 3) := by decide +kernel
theorem d_M_isYear_14 : decode c_M_isYear 14 = .ok (.iconst 1, 1) := by decide +kernel
theorem d_M_isYear_15 : decode c_M_isYear 15 = .ok (.goto 4, 3) := by decide +kernel
theorem d_M_isYear_18 : decode c_M_isYear 18 = .ok (.iconst 0, 1) := by decide +kernel
theorem d_M_isYear_19 : decode c_M_isYear 19 = .ok (.ireturn, 1) := by decide +kernel
theorem d_M_leap_0 : decode c_M_leap 0 = .ok (.aload_n 0, 1) := by decide +kernel
theorem d_M_leap_1 : decode c_M_leap 1 = .ok (.iload_n 1, 1) := by decide +kernel
theorem d_M_leap_2 : decode c_M_leap 2 = .ok (.iconst 2, 1) := by decide +kernel
theorem d_M_leap_3 : decode c_M_leap 3 = .ok (.if_icmp .eq 15, 3) := by decide +kernel
theorem d_M_leap_6 : decode c_M_leap 6 = .ok (.iload_n 1, 1) := by decide +kernel
theorem d_M_leap_7 : decode c_M_leap 7 = .ok (.bipush 10, 2) := by decide +kernel
theorem d_M_leap_9 : decode c_M_leap 9 = .ok (.if_icmp .eq 9, 3) := by decide +kernel
theorem d_M_leap_12 : decode c_M_leap 12 = .ok (.iload_n 1, 1) := by decide +kernel
theorem d_M_leap_13 : decode c_M_leap 13 = .ok (.bipush 11, 2) := by decide +kernel
theorem d_M_leap_15 : decode c_M_leap 15 = .ok (.if_icmp .ne 7, 3) := by decide +kernel
theorem d_M_leap_18 : decode c_M_leap 18 = .ok (.iconst 1, 1) := by decide +kernel
theorem d_M_leap_19 : decode c_M_leap 19 = .ok (.goto 42, 3) := by decide +kernel
theorem d_M_leap_22 : decode c_M_leap 22 = .ok (.aload_n 0, 1) := by decide +kernel
theorem d_M_leap_23 : decode c_M_leap 23 = .ok (.iload_n 1, 1) := by decide +kernel
theorem d_M_leap_24 : decode c_M_leap 24 = .ok (.invokevirtual 269, 3) := by decide +kernel
theorem d_M_leap_27 : decode c_M_leap 27 = .ok (.ifCond .ne 7, 3) := by decide +kernel
theorem d_M_leap_30 : decode c_M_leap 30 = .ok (.iconst 2, 1) := by decide +kernel
theorem d_M_leap_31 : decode c_M_leap 31 = .ok (.goto 30, 3) := by decide +kernel
theorem d_M_leap_34 : decode c_M_leap 34 = .ok (.iload_n 1, 1) := by decide +kernel
theorem d_M_leap_35 : decode c_M_leap 35 = .ok (.invokestatic 59, 3) := by decide +kernel
theorem d_M_leap_38 : decode c_M_leap 38 = .ok (.ifCond .eq 11, 3) := by decide +kernel
theorem d_M_leap_41 : decode c_M_leap 41 = .ok (.iload_n 2, 1) := by decide +kernel
theorem d_M_leap_42 : decode c_M_leap 42 = .ok (.ifCond .ne 7, 3) := by decide +kernel
theorem d_M_leap_45 : decode c_M_leap 45 = .ok (.iconst 3, 1) := by decide +kernel
theorem d_M_leap_46 : decode c_M_leap 46 = .ok (.goto 15, 3) := by decide +kernel
theorem d_M_leap_49 : decode c_M_leap 49 = .ok (.iload_n 2, 1) := by decide +kernel
theorem d_M_leap_50 : decode c_M_leap 50 = .ok (.invokestatic 277, 3) := by decide +kernel
theorem d_M_leap_53 : decode c_M_leap 53 = .ok (.ifCond .ne 7, 3) := by decide +kernel
theorem d_M_leap_56 : decode c_M_leap 56 = .ok (.iconst 4, 1) := by decide +kernel
theorem d_M_leap_57 : decode c_M_leap 57 = .ok (.goto 4, 3) := by decide +kernel
theorem d_M_leap_60 : decode c_M_leap 60 = .ok (.iconst 0, 1) := by decide +kernel
theorem d_M_leap_61 : decode c_M_leap 61 = .ok (.putfield 52, 3) := by decide +kernel
theorem d_M_leap_64 : decode c_M_leap 64 = .ok (.aload_n 0, 1) := by decide +kernel
theorem d_M_leap_65 : decode c_M_leap 65 = .ok (.getfield 52, 3) := by decide +kernel
theorem d_M_leap_68 : decode c_M_leap 68 = .ok (.ifCond .ne 21, 3) := by decide +kernel
theorem d_M_leap_71 : decode c_M_leap 71 = .ok (.aload_n 0, 1) := by decide +kernel
theorem d_M_leap_72 : decode c_M_leap 72 = .ok (.iload_n 1, 1) := by decide +kernel
theorem d_M_leap_73 : decode c_M_leap 73 = .ok (.iload_n 1, 1) := by decide +kernel
theorem d_M_leap_74 : decode c_M_leap 74 = .ok (.iload_n 2, 1) := by decide +kernel
theorem d_M_leap_75 : decode c_M_leap 75 = .ok (.i2l, 1) := by decide +kernel
theorem d_M_leap_76 : decode c_M_leap 76 = .ok (.invokestatic 256, 3) := by decide +kernel
theorem d_M_leap_79 : decode c_M_leap 79 = .ok (.invokevirtual 102, 3) := by decide +kernel
theorem d_M_leap_82 : decode c_M_leap 82 = .ok (.ifCond .eq 7, 3) := by decide +kernel
theorem d_M_leap_85 : decode c_M_leap 85 = .ok (.iconst 1, 1) := by decide +kernel
theorem d_M_leap_86 : decode c_M_leap 86 = .ok (.goto 4, 3) := by decide +kernel
theorem d_M_leap_89 : decode c_M_leap 89 = .ok (.iconst 0, 1) := by decide +kernel
theorem d_M_leap_90 : decode c_M_leap 90 = .ok (.ireturn, 1) := by decide +kernel
theorem d_M_leap0_0 : decode c_M_leap0 0 = .ok (.lload_n 0, 1) := by decide +kernel
theorem d_M_leap0_1 : decode c_M_leap0 1 = .ok (.ldc2_w 63, 3) := by decide +kernel
theorem d_M_leap0_4 : decode c_M_leap0 4 = .ok (.invokestatic 65, 3) := by decide +kernel
theorem d_M_leap0_7 : decode c_M_leap0 7 = .ok (.lconst 0, 1) := by decide +kernel
theorem d_M_leap0_8 : decode c_M_leap0 8 = .ok (.lcmp, 1) := by decide +kernel
theorem d_M_leap0_9 : decode c_M_leap0 9 = .ok (.ifCond .ne 31, 3) := by decide +kernel
theorem d_M_leap0_12 : decode c_M_leap0 12 = .ok (.lload_n 0, 1) := by decide +kernel
theorem d_M_leap0_13 : decode c_M_leap0 13 = .ok (.ldc2_w 68, 3) := by decide +kernel
theorem d_M_leap0_16 : decode c_M_leap0 16 = .ok (.invokestatic 65, 3) := by decide +kernel
theorem d_M_leap0_19 : decode c_M_leap0 19 = .ok (.lconst 0, 1) := by decide +kernel
theorem d_M_leap0_20 : decode c_M_leap0 20 = .ok (.lcmp, 1) := by decide +kernel
theorem d_M_leap0_21 : decode c_M_leap0 21 = .ok (.ifCond .ne 15, 3) := by decide +kernel
theorem d_M_leap0_24 : decode c_M_leap0 24 = .ok (.lload_n 0, 1) := by decide +kernel
theorem d_M_leap0_25 : decode c_M_leap0 25 = .ok (.ldc2_w 70, 3) := by decide +kernel
theorem d_M_leap0_28 : decode c_M_leap0 28 = .ok (.invokestatic 65, 3) := by decide +kernel
theorem d_M_leap0_31 : decode c_M_leap0 31 = .ok (.lconst 0, 1) := by decide +kernel
theorem d_M_leap0_32 : decode c_M_leap0 32 = .ok (.lcmp, 1) := by decide +kernel
theorem d_M_leap0_33 : decode c_M_leap0 33 = .ok (.ifCond .ne 7, 3) := by decide +kernel
theorem d_M_leap0_36 : decode c_M_leap0 36 = .ok (.iconst 1, 1) := by decide +kernel
theorem d_M_leap0_37 : decode c_M_leap0 37 = .ok (.goto 4, 3) := by decide +kernel
theorem d_M_leap0_40 : decode c_M_leap0 40 = .ok (.iconst 0, 1) := by decide +kernel
theorem d_M_leap0_41 : decode c_M_leap0 41 = .ok (.ireturn, 1) := by decide +kernel
theorem d_M_lengthOf_0 : decode c_M_lengthOf 0 = .ok (.aload_n 0, 1) := by decide +kernel
theorem d_M_lengthOf_1 : decode c_M_lengthOf 1 = .ok (.iload_n 1, 1) := by decide +kernel
theorem d_M_lengthOf_2 : decode c_M_lengthOf 2 = .ok (.lload_n 2, 1) := by decide +kernel
theorem d_M_lengthOf_3 : decode c_M_lengthOf 3 = .ok (.invokevirtual 102, 3) := by decide +kernel
theorem d_M_lengthOf_6 : decode c_M_lengthOf 6 = .ok (.istore 5, 2) := by decide +kernel
theorem d_M_lengthOf_8 : decode c_M_lengthOf 8 = .ok (.iload_n 1, 1) := by decide +kernel
theorem d_M_lengthOf_9 : decode c_M_lengthOf 9 = .ok (.tableswitch 226 0 9 #[55, 55, 226, 111, 111, 135, 163, 111, 195, 216], 55) := by decide +kernel
theorem d_M_lengthOf_64 : decode c_M_lengthOf 64 = .ok (.iload 4, 2) := by decide +kernel
theorem d_M_lengthOf_66 : decode c_M_lengthOf 66 = .ok (.iconst 2, 1) := by decide +kernel
theorem d_M_lengthOf_67 : decode c_M_lengthOf 67 = .ok (.if_icmp .ne 18, 3) := by decide +kernel
theorem d_M_lengthOf_70 : decode c_M_lengthOf 70 = .ok (.iload 5, 2) := by decide +kernel
theorem d_M_lengthOf_72 : decode c_M_lengthOf 72 = .ok (.ifCond .eq 8, 3) := by decide +kernel
theorem d_M_lengthOf_75 : decode c_M_lengthOf 75 = .ok (.bipush 29, 2) := by decide +kernel
theorem d_M_lengthOf_77 : decode c_M_lengthOf 77 = .ok (.goto 42, 3) := by decide +kernel
theorem d_M_lengthOf_80 : decode c_M_lengthOf 80 = .ok (.bipush 28, 2) := by decide +kernel
theorem d_M_lengthOf_82 : decode c_M_lengthOf 82 = .ok (.goto 37, 3) := by decide +kernel
theorem d_M_lengthOf_85 : decode c_M_lengthOf 85 = .ok (.iload 4, 2) := by decide +kernel
theorem d_M_lengthOf_87 : decode c_M_lengthOf 87 = .ok (.iconst 4, 1) := by decide +kernel
theorem d_M_lengthOf_88 : decode c_M_lengthOf 88 = .ok (.if_icmp .eq 24, 3) := by decide +kernel
theorem d_M_lengthOf_91 : decode c_M_lengthOf 91 = .ok (.iload 4, 2) := by decide +kernel
theorem d_M_lengthOf_93 : decode c_M_lengthOf 93 = .ok (.bipush 6, 2) := by decide +kernel
theorem d_M_lengthOf_95 : decode c_M_lengthOf 95 = .ok (.if_icmp .eq 17, 3) := by decide +kernel
theorem d_M_lengthOf_98 : decode c_M_lengthOf 98 = .ok (.iload 4, 2) := by decide +kernel
theorem d_M_lengthOf_100 : decode c_M_lengthOf 100 = .ok (.bipush 9, 2) := by decide +kernel
theorem d_M_lengthOf_102 : decode c_M_lengthOf 102 = .ok (.if_icmp .eq 10, 3) := by decide +kernel
theorem d_M_lengthOf_105 : decode c_M_lengthOf 105 = .ok (.iload 4, 2) := by decide +kernel
theorem d_M_lengthOf_107 : decode c_M_lengthOf 107 = .ok (.bipush 11, 2) := by decide +kernel
theorem d_M_lengthOf_109 : decode c_M_lengthOf 109 = .ok (.if_icmp .ne 8, 3) := by decide +kernel
theorem d_M_lengthOf_112 : decode c_M_lengthOf 112 = .ok (.bipush 30, 2) := by decide +kernel
theorem d_M_lengthOf_114 : decode c_M_lengthOf 114 = .ok (.goto 5, 3) := by decide +kernel
theorem d_M_lengthOf_117 : decode c_M_lengthOf 117 = .ok (.bipush 31, 2) := by decide +kernel
theorem d_M_lengthOf_119 : decode c_M_lengthOf 119 = .ok (.ireturn, 1) := by decide +kernel
theorem d_M_lengthOf_120 : decode c_M_lengthOf 120 = .ok (.iload 4, 2) := by decide +kernel
theorem d_M_lengthOf_122 : decode c_M_lengthOf 122 = .ok (.bipush 13, 2) := by decide +kernel
theorem d_M_lengthOf_124 : decode c_M_lengthOf 124 = .ok (.if_icmp .ge 8, 3) := by decide +kernel
theorem d_M_lengthOf_127 : decode c_M_lengthOf 127 = .ok (.bipush 30, 2) := by decide +kernel
theorem d_M_lengthOf_129 : decode c_M_lengthOf 129 = .ok (.goto 14, 3) := by decide +kernel
theorem d_M_lengthOf_132 : decode c_M_lengthOf 132 = .ok (.iload 5, 2) := by decide +kernel
theorem d_M_lengthOf_134 : decode c_M_lengthOf 134 = .ok (.ifCond .eq 8, 3) := by decide +kernel
theorem d_M_lengthOf_137 : decode c_M_lengthOf 137 = .ok (.bipush 6, 2) := by decide +kernel
theorem d_M_lengthOf_139 : decode c_M_lengthOf 139 = .ok (.goto 4, 3) := by decide +kernel
theorem d_M_lengthOf_142 : decode c_M_lengthOf 142 = .ok (.iconst 5, 1) := by decide +kernel
theorem d_M_lengthOf_143 : decode c_M_lengthOf 143 = .ok (.ireturn, 1) := by decide +kernel
theorem d_M_lengthOf_144 : decode c_M_lengthOf 144 = .ok (.iload 4, 2) := by decide +kernel
theorem d_M_lengthOf_146 : decode c_M_lengthOf 146 = .ok (.iconst 2, 1) := by decide +kernel
theorem d_M_lengthOf_147 : decode c_M_lengthOf 147 = .ok (.irem, 1) := by decide +kernel
theorem d_M_lengthOf_148 : decode c_M_lengthOf 148 = .ok (.iconst 1, 1) := by decide +kernel
theorem d_M_lengthOf_149 : decode c_M_lengthOf 149 = .ok (.if_icmp .eq 15, 3) := by decide +kernel
theorem d_M_lengthOf_152 : decode c_M_lengthOf 152 = .ok (.iload 4, 2) := by decide +kernel
theorem d_M_lengthOf_154 : decode c_M_lengthOf 154 = .ok (.bipush 12, 2) := by decide +kernel
theorem d_M_lengthOf_156 : decode c_M_lengthOf 156 = .ok (.if_icmp .ne 13, 3) := by decide +kernel
theorem d_M_lengthOf_159 : decode c_M_lengthOf 159 = .ok (.iload 5, 2) := by decide +kernel
theorem d_M_lengthOf_161 : decode c_M_lengthOf 161 = .ok (.ifCond .eq 8, 3) := by decide +kernel
theorem d_M_lengthOf_164 : decode c_M_lengthOf 164 = .ok (.bipush 30, 2) := by decide +kernel
theorem d_M_lengthOf_166 : decode c_M_lengthOf 166 = .ok (.goto 5, 3) := by decide +kernel
theorem d_M_lengthOf_169 : decode c_M_lengthOf 169 = .ok (.bipush 29, 2) := by decide +kernel
theorem d_M_lengthOf_171 : decode c_M_lengthOf 171 = .ok (.ireturn, 1) := by decide +kernel
theorem d_M_lengthOf_172 : decode c_M_lengthOf 172 = .ok (.iload 4, 2) := by decide +kernel
theorem d_M_lengthOf_174 : decode c_M_lengthOf 174 = .ok (.bipush 7, 2) := by decide +kernel
theorem d_M_lengthOf_176 : decode c_M_lengthOf 176 = .ok (.if_icmp .ge 8, 3) := by decide +kernel
theorem d_M_lengthOf_179 : decode c_M_lengthOf 179 = .ok (.bipush 31, 2) := by decide +kernel
theorem d_M_lengthOf_181 : decode c_M_lengthOf 181 = .ok (.goto 22, 3) := by decide +kernel
theorem d_M_lengthOf_184 : decode c_M_lengthOf 184 = .ok (.iload 4, 2) := by decide +kernel
theorem d_M_lengthOf_186 : decode c_M_lengthOf 186 = .ok (.bipush 12, 2) := by decide +kernel
theorem d_M_lengthOf_188 : decode c_M_lengthOf 188 = .ok (.if_icmp .lt 8, 3) := by decide +kernel
theorem d_M_lengthOf_191 : decode c_M_lengthOf 191 = .ok (.iload 5, 2) := by decide +kernel
theorem d_M_lengthOf_193 : decode c_M_lengthOf 193 = .ok (.ifCond .eq 8, 3) := by decide +kernel
theorem d_M_lengthOf_196 : decode c_M_lengthOf 196 = .ok (.bipush 30, 2) := by decide +kernel
theorem d_M_lengthOf_198 : decode c_M_lengthOf 198 = .ok (.goto 5, 3) := by decide +kernel
theorem d_M_lengthOf_201 : decode c_M_lengthOf 201 = .ok (.bipush 29, 2) := by decide +kernel
theorem d_M_lengthOf_203 : decode c_M_lengthOf 203 = .ok (.ireturn, 1) := by decide +kernel
theorem d_M_lengthOf_204 : decode c_M_lengthOf 204 = .ok (.iload 4, 2) := by decide +kernel
theorem d_M_lengthOf_206 : decode c_M_lengthOf 206 = .ok (.ifCond .eq 8, 3) := by decide +kernel
theorem d_M_lengthOf_209 : decode c_M_lengthOf 209 = .ok (.bipush 19, 2) := by decide +kernel
theorem d_M_lengthOf_211 : decode c_M_lengthOf 211 = .ok (.goto 13, 3) := by decide +kernel
theorem d_M_lengthOf_214 : decode c_M_lengthOf 214 = .ok (.iload 5, 2) := by decide +kernel
theorem d_M_lengthOf_216 : decode c_M_lengthOf 216 = .ok (.ifCond .eq 7, 3) := by decide +kernel
theorem d_M_lengthOf_219 : decode c_M_lengthOf 219 = .ok (.iconst 5, 1) := by decide +kernel
theorem d_M_lengthOf_220 : decode c_M_lengthOf 220 = .ok (.goto 4, 3) := by decide +kernel
theorem d_M_lengthOf_223 : decode c_M_lengthOf 223 = .ok (.iconst 4, 1) := by decide +kernel
theorem d_M_lengthOf_224 : decode c_M_lengthOf 224 = .ok (.ireturn, 1) := by decide +kernel
theorem d_M_lengthOf_225 : decode c_M_lengthOf 225 = .ok (.aload_n 0, 1) := by decide +kernel
theorem d_M_lengthOf_226 : decode c_M_lengthOf 226 = .ok (.lload_n 2, 1) := by decide +kernel
theorem d_M_lengthOf_227 : decode c_M_lengthOf 227 = .ok (.iload 4, 2) := by decide +kernel
theorem d_M_lengthOf_229 : decode c_M_lengthOf 229 = .ok (.iload 5, 2) := by decide +kernel
theorem d_M_lengthOf_231 : decode c_M_lengthOf 231 = .ok (.invokevirtual 110, 3) := by decide +kernel
theorem d_M_lengthOf_234 : decode c_M_lengthOf 234 = .ok (.ireturn, 1) := by decide +kernel
theorem d_M_lengthOf_235 : decode c_M_lengthOf 235 = .ok (.iload 4, 2) := by decide +kernel
theorem d_M_lengthOf_237 : decode c_M_lengthOf 237 = .ok (.aload_n 0, 1) := by decide +kernel
theorem d_M_lengthOf_238 : decode c_M_lengthOf 238 = .ok (.getfield 21, 3) := by decide +kernel
theorem d_M_lengthOf_241 : decode c_M_lengthOf 241 = .ok (.iload_n 1, 1) := by decide +kernel
theorem d_M_lengthOf_242 : decode c_M_lengthOf 242 = .ok (.bipush 12, 2) := by decide +kernel
theorem d_M_lengthOf_244 : decode c_M_lengthOf 244 = .ok (.isub, 1) := by decide +kernel
theorem d_M_lengthOf_245 : decode c_M_lengthOf 245 = .ok (.iaload, 1) := by decide +kernel
theorem d_M_lengthOf_246 : decode c_M_lengthOf 246 = .ok (.if_icmp .ne 22, 3) := by decide +kernel
theorem d_M_lengthOf_249 : decode c_M_lengthOf 249 = .ok (.iload 5, 2) := by decide +kernel
theorem d_M_lengthOf_251 : decode c_M_lengthOf 251 = .ok (.ifCond .eq 17, 3) := by decide +kernel
theorem d_M_lengthOf_254 : decode c_M_lengthOf 254 = .ok (.aload_n 0, 1) := by decide +kernel
theorem d_M_lengthOf_255 : decode c_M_lengthOf 255 = .ok (.getfield 24, 3) := by decide +kernel
theorem d_M_lengthOf_258 : decode c_M_lengthOf 258 = .ok (.iload_n 1, 1) := by decide +kernel
theorem d_M_lengthOf_259 : decode c_M_lengthOf 259 = .ok (.bipush 12, 2) := by decide +kernel
theorem d_M_lengthOf_261 : decode c_M_lengthOf 261 = .ok (.isub, 1) := by decide +kernel
theorem d_M_lengthOf_262 : decode c_M_lengthOf 262 = .ok (.iaload, 1) := by decide +kernel
theorem d_M_lengthOf_263 : decode c_M_lengthOf 263 = .ok (.iconst 1, 1) := by decide +kernel
theorem d_M_lengthOf_264 : decode c_M_lengthOf 264 = .ok (.iadd, 1) := by decide +kernel
theorem d_M_lengthOf_265 : decode c_M_lengthOf 265 = .ok (.goto 12, 3) := by decide +kernel
theorem d_M_lengthOf_268 : decode c_M_lengthOf 268 = .ok (.aload_n 0, 1) := by decide +kernel
theorem d_M_lengthOf_269 : decode c_M_lengthOf 269 = .ok (.getfield 24, 3) := by decide +kernel
theorem d_M_lengthOf_272 : decode c_M_lengthOf 272 = .ok (.iload_n 1, 1) := by decide +kernel
theorem d_M_lengthOf_273 : decode c_M_lengthOf 273 = .ok (.bipush 12, 2) := by decide +kernel
theorem d_M_lengthOf_275 : decode c_M_lengthOf 275 = .ok (.isub, 1) := by decide +kernel
theorem d_M_lengthOf_276 : decode c_M_lengthOf 276 = .ok (.iaload, 1) := by decide +kernel
theorem d_M_lengthOf_277 : decode c_M_lengthOf 277 = .ok (.ireturn, 1) := by decide +kernel
theorem d_M_letter_0 : decode c_M_letter 0 = .ok (.aload_n 0, 1) := by decide +kernel
theorem d_M_letter_1 : decode c_M_letter 1 = .ok (.iconst 0, 1) := by decide +kernel
theorem d_M_letter_2 : decode c_M_letter 2 = .ok (.putfield 52, 3) := by decide +kernel
theorem d_M_letter_5 : decode c_M_letter 5 = .ok (.iload_n 1, 1) := by decide +kernel
theorem d_M_letter_6 : decode c_M_letter 6 = .ok (.ifCond .lt 20, 3) := by decide +kernel
theorem d_M_letter_9 : decode c_M_letter 9 = .ok (.iload_n 1, 1) := by decide +kernel
theorem d_M_letter_10 : decode c_M_letter 10 = .ok (.aload_n 0, 1) := by decide +kernel
theorem d_M_letter_11 : decode c_M_letter 11 = .ok (.getfield 305, 3) := by decide +kernel
theorem d_M_letter_14 : decode c_M_letter 14 = .ok (.if_icmp .ge 12, 3) := by decide +kernel
theorem d_M_letter_17 : decode c_M_letter 17 = .ok (.aload_n 0, 1) := by decide +kernel
theorem d_M_letter_18 : decode c_M_letter 18 = .ok (.getfield 44, 3) := by decide +kernel
theorem d_M_letter_21 : decode c_M_letter 21 = .ok (.iload_n 1, 1) := by decide +kernel
theorem d_M_letter_22 : decode c_M_letter 22 = .ok (.caload, 1) := by decide +kernel
theorem d_M_letter_23 : decode c_M_letter 23 = .ok (.goto 4, 3) := by decide +kernel
theorem d_M_letter_26 : decode c_M_letter 26 = .ok (.iconst 0, 1) := by decide +kernel
theorem d_M_letter_27 : decode c_M_letter 27 = .ok (.ireturn, 1) := by decide +kernel
theorem d_M_lookFor_0 : decode c_M_lookFor 0 = .ok (.lload 5, 2) := by decide +kernel
theorem d_M_lookFor_2 : decode c_M_lookFor 2 = .ok (.iload 7, 2) := by decide +kernel
theorem d_M_lookFor_4 : decode c_M_lookFor 4 = .ok (.i2l, 1) := by decide +kernel
theorem d_M_lookFor_5 : decode c_M_lookFor 5 = .ok (.lsub, 1) := by decide +kernel
theorem d_M_lookFor_6 : decode c_M_lookFor 6 = .ok (.lstore 8, 2) := by decide +kernel
theorem d_M_lookFor_8 : decode c_M_lookFor 8 = .ok (.lload 8, 2) := by decide +kernel
theorem d_M_lookFor_10 : decode c_M_lookFor 10 = .ok (.lload 5, 2) := by decide +kernel
theorem d_M_lookFor_12 : decode c_M_lookFor 12 = .ok (.iload 7, 2) := by decide +kernel
theorem d_M_lookFor_14 : decode c_M_lookFor 14 = .ok (.i2l, 1) := by decide +kernel
theorem d_M_lookFor_15 : decode c_M_lookFor 15 = .ok (.ladd, 1) := by decide +kernel
theorem d_M_lookFor_16 : decode c_M_lookFor 16 = .ok (.lcmp, 1) := by decide +kernel
theorem d_M_lookFor_17 : decode c_M_lookFor 17 = .ok (.ifCond .gt 29, 3) := by decide +kernel
theorem d_M_lookFor_20 : decode c_M_lookFor 20 = .ok (.aload_n 0, 1) := by decide +kernel
theorem d_M_lookFor_21 : decode c_M_lookFor 21 = .ok (.iload_n 1, 1) := by decide +kernel
theorem d_M_lookFor_22 : decode c_M_lookFor 22 = .ok (.iload_n 2, 1) := by decide +kernel
theorem d_M_lookFor_23 : decode c_M_lookFor 23 = .ok (.iload_n 3, 1) := by decide +kernel
theorem d_M_lookFor_24 : decode c_M_lookFor 24 = .ok (.iload 4, 2) := by decide +kernel
theorem d_M_lookFor_26 : decode c_M_lookFor 26 = .ok (.lload 8, 2) := by decide +kernel
theorem d_M_lookFor_28 : decode c_M_lookFor 28 = .ok (.invokevirtual 246, 3) := by decide +kernel
theorem d_M_lookFor_31 : decode c_M_lookFor 31 = .ok (.ifCond .eq 6, 3) := by decide +kernel
theorem d_M_lookFor_34 : decode c_M_lookFor 34 = .ok (.lload 8, 2) := by decide +kernel
theorem d_M_lookFor_36 : decode c_M_lookFor 36 = .ok (.lreturn, 1) := by decide +kernel
theorem d_M_lookFor_37 : decode c_M_lookFor 37 = .ok (.lload 8, 2) := by decide +kernel
theorem d_M_lookFor_39 : decode c_M_lookFor 39 = .ok (.lconst 1, 1) := by decide +kernel
theorem d_M_lookFor_40 : decode c_M_lookFor 40 = .ok (.ladd, 1) := by decide +kernel
theorem d_M_lookFor_41 : decode c_M_lookFor 41 = .ok (.lstore 8, 2) := by decide +kernel
theorem d_M_lookFor_43 : decode c_M_lookFor 43 = .ok (.goto (-35), 3) := by decide +kernel
theorem d_M_lookFor_46 : decode c_M_lookFor 46 = .ok (.ldc2_w 250, 3) := by decide +kernel
theorem d_M_lookFor_49 : decode c_M_lookFor 49 = .ok (.lreturn, 1) := by decide +kernel
theorem d_M_meeting_0 : decode c_M_meeting 0 = .ok (.aload_n 0, 1) := by decide +kernel
theorem d_M_meeting_1 : decode c_M_meeting 1 = .ok (.iconst 0, 1) := by decide +kernel
theorem d_M_meeting_2 : decode c_M_meeting 2 = .ok (.putfield 52, 3) := by decide +kernel
theorem d_M_meeting_5 : decode c_M_meeting 5 = .ok (.iload_n 1, 1) := by decide +kernel
theorem d_M_meeting_6 : decode c_M_meeting 6 = .ok (.ifCond .lt 29, 3) := by decide +kernel
theorem d_M_meeting_9 : decode c_M_meeting 9 = .ok (.iload_n 1, 1) := by decide +kernel
theorem d_M_meeting_10 : decode c_M_meeting 10 = .ok (.sipush 364, 3) := by decide +kernel
theorem d_M_meeting_13 : decode c_M_meeting 13 = .ok (.if_icmp .gt 22, 3) := by decide +kernel
theorem d_M_meeting_16 : decode c_M_meeting 16 = .ok (.iload_n 2, 1) := by decide +kernel
theorem d_M_meeting_17 : decode c_M_meeting 17 = .ok (.ifCond .lt 18, 3) := by decide +kernel
theorem d_M_meeting_20 : decode c_M_meeting 20 = .ok (.iload_n 2, 1) := by decide +kernel
theorem d_M_meeting_21 : decode c_M_meeting 21 = .ok (.sipush 259, 3) := by decide +kernel
theorem d_M_meeting_24 : decode c_M_meeting 24 = .ok (.if_icmp .gt 11, 3) := by decide +kernel
theorem d_M_meeting_27 : decode c_M_meeting 27 = .ok (.iload_n 3, 1) := by decide +kernel
theorem d_M_meeting_28 : decode c_M_meeting 28 = .ok (.i2l, 1) := by decide +kernel
theorem d_M_meeting_29 : decode c_M_meeting 29 = .ok (.invokestatic 272, 3) := by decide +kernel
theorem d_M_meeting_32 : decode c_M_meeting 32 = .ok (.ifCond .ne 6, 3) := by decide +kernel
theorem d_M_meeting_35 : decode c_M_meeting 35 = .ok (.ldc 39, 2) := by decide +kernel
theorem d_M_meeting_37 : decode c_M_meeting 37 = .ok (.ireturn, 1) := by decide +kernel
theorem d_M_meeting_38 : decode c_M_meeting 38 = .ok (.iconst 0, 1) := by decide +kernel
theorem d_M_meeting_39 : decode c_M_meeting 39 = .ok (.istore 4, 2) := by decide +kernel
theorem d_M_meeting_41 : decode c_M_meeting 41 = .ok (.iload 4, 2) := by decide +kernel
theorem d_M_meeting_43 : decode c_M_meeting 43 = .ok (.sipush 18980, 3) := by decide +kernel
theorem d_M_meeting_46 : decode c_M_meeting 46 = .ok (.if_icmp .ge 65, 3) := by decide +kernel
theorem d_M_meeting_49 : decode c_M_meeting 49 = .ok (.iload_n 3, 1) := by decide +kernel
theorem d_M_meeting_50 : decode c_M_meeting 50 = .ok (.i2l, 1) := by decide +kernel
theorem d_M_meeting_51 : decode c_M_meeting 51 = .ok (.iload 4, 2) := by decide +kernel
theorem d_M_meeting_53 : decode c_M_meeting 53 = .ok (.i2l, 1) := by decide +kernel
theorem d_M_meeting_54 : decode c_M_meeting 54 = .ok (.lsub, 1) := by decide +kernel
theorem d_M_meeting_55 : decode c_M_meeting 55 = .ok (.lstore 5, 2) := by decide +kernel
theorem d_M_meeting_57 : decode c_M_meeting 57 = .ok (.lload 5, 2) := by decide +kernel
theorem d_M_meeting_59 : decode c_M_meeting 59 = .ok (.invokestatic 272, 3) := by decide +kernel
theorem d_M_meeting_62 : decode c_M_meeting 62 = .ok (.ifCond .eq 43, 3) := by decide +kernel
theorem d_M_meeting_65 : decode c_M_meeting 65 = .ok (.lload 5, 2) := by decide +kernel
theorem d_M_meeting_67 : decode c_M_meeting 67 = .ok (.ldc2_w 284, 3) := by decide +kernel
theorem d_M_meeting_70 : decode c_M_meeting 70 = .ok (.ladd, 1) := by decide +kernel
theorem d_M_meeting_71 : decode c_M_meeting 71 = .ok (.ldc2_w 128, 3) := by decide +kernel
theorem d_M_meeting_74 : decode c_M_meeting 74 = .ok (.invokestatic 65, 3) := by decide +kernel
theorem d_M_meeting_77 : decode c_M_meeting 77 = .ok (.iload_n 1, 1) := by decide +kernel
theorem d_M_meeting_78 : decode c_M_meeting 78 = .ok (.i2l, 1) := by decide +kernel
theorem d_M_meeting_79 : decode c_M_meeting 79 = .ok (.lcmp, 1) := by decide +kernel
theorem d_M_meeting_80 : decode c_M_meeting 80 = .ok (.ifCond .ne 25, 3) := by decide +kernel
theorem d_M_meeting_83 : decode c_M_meeting 83 = .ok (.lload 5, 2) := by decide +kernel
theorem d_M_meeting_85 : decode c_M_meeting 85 = .ok (.ldc2_w 288, 3) := by decide +kernel
theorem d_M_meeting_88 : decode c_M_meeting 88 = .ok (.ladd, 1) := by decide +kernel
theorem d_M_meeting_89 : decode c_M_meeting 89 = .ok (.ldc2_w 290, 3) := by decide +kernel
theorem d_M_meeting_92 : decode c_M_meeting 92 = .ok (.invokestatic 65, 3) := by decide +kernel
theorem d_M_meeting_95 : decode c_M_meeting 95 = .ok (.iload_n 2, 1) := by decide +kernel
theorem d_M_meeting_96 : decode c_M_meeting 96 = .ok (.i2l, 1) := by decide +kernel
theorem d_M_meeting_97 : decode c_M_meeting 97 = .ok (.lcmp, 1) := by decide +kernel
theorem d_M_meeting_98 : decode c_M_meeting 98 = .ok (.ifCond .ne 7, 3) := by decide +kernel
theorem d_M_meeting_101 : decode c_M_meeting 101 = .ok (.lload 5, 2) := by decide +kernel
theorem d_M_meeting_103 : decode c_M_meeting 103 = .ok (.l2i, 1) := by decide +kernel
theorem d_M_meeting_104 : decode c_M_meeting 104 = .ok (.ireturn, 1) := by decide +kernel
theorem d_M_meeting_105 : decode c_M_meeting 105 = .ok (.iinc 4 1, 3) := by decide +kernel
theorem d_M_meeting_108 : decode c_M_meeting 108 = .ok (.goto (-67), 3) := by decide +kernel
theorem d_M_meeting_111 : decode c_M_meeting 111 = .ok (.ldc 39, 2) := by decide +kernel
theorem d_M_meeting_113 : decode c_M_meeting 113 = .ok (.ireturn, 1) := by decide +kernel
theorem d_M_mod_0 : decode c_M_mod 0 = .ok (.lload_n 0, 1) := by decide +kernel
theorem d_M_mod_1 : decode c_M_mod 1 = .ok (.lload_n 2, 1) := by decide +kernel
theorem d_M_mod_2 : decode c_M_mod 2 = .ok (.lload_n 0, 1) := by decide +kernel
theorem d_M_mod_3 : decode c_M_mod 3 = .ok (.lload_n 2, 1) := by decide +kernel
theorem d_M_mod_4 : decode c_M_mod 4 = .ok (.invokestatic 55, 3) := by decide +kernel
theorem d_M_mod_7 : decode c_M_mod 7 = .ok (.lmul, 1) := by decide +kernel
theorem d_M_mod_8 : decode c_M_mod 8 = .ok (.lsub, 1) := by decide +kernel
theorem d_M_mod_9 : decode c_M_mod 9 = .ok (.lreturn, 1) := by decide +kernel
theorem d_M_monthAt_0 : decode c_M_monthAt 0 = .ok (.iload_n 1, 1) := by decide +kernel
theorem d_M_monthAt_1 : decode c_M_monthAt 1 = .ok (.bipush 8, 2) := by decide +kernel
theorem d_M_monthAt_3 : decode c_M_monthAt 3 = .ok (.if_icmp .ne 31, 3) := by decide +kernel
theorem d_M_monthAt_6 : decode c_M_monthAt 6 = .ok (.iload 4, 2) := by decide +kernel
theorem d_M_monthAt_8 : decode c_M_monthAt 8 = .ok (.bipush 18, 2) := by decide +kernel
theorem d_M_monthAt_10 : decode c_M_monthAt 10 = .ok (.if_icmp .ge 10, 3) := by decide +kernel
theorem d_M_monthAt_13 : decode c_M_monthAt 13 = .ok (.iload 4, 2) := by decide +kernel
theorem d_M_monthAt_15 : decode c_M_monthAt 15 = .ok (.iconst 1, 1) := by decide +kernel
theorem d_M_monthAt_16 : decode c_M_monthAt 16 = .ok (.iadd, 1) := by decide +kernel
theorem d_M_monthAt_17 : decode c_M_monthAt 17 = .ok (.goto 16, 3) := by decide +kernel
theorem d_M_monthAt_20 : decode c_M_monthAt 20 = .ok (.iload 4, 2) := by decide +kernel
theorem d_M_monthAt_22 : decode c_M_monthAt 22 = .ok (.bipush 18, 2) := by decide +kernel
theorem d_M_monthAt_24 : decode c_M_monthAt 24 = .ok (.if_icmp .ne 7, 3) := by decide +kernel
theorem d_M_monthAt_27 : decode c_M_monthAt 27 = .ok (.iconst 0, 1) := by decide +kernel
theorem d_M_monthAt_28 : decode c_M_monthAt 28 = .ok (.goto 5, 3) := by decide +kernel
theorem d_M_monthAt_31 : decode c_M_monthAt 31 = .ok (.bipush 19, 2) := by decide +kernel
theorem d_M_monthAt_33 : decode c_M_monthAt 33 = .ok (.ireturn, 1) := by decide +kernel
theorem d_M_monthAt_34 : decode c_M_monthAt 34 = .ok (.iload_n 1, 1) := by decide +kernel
theorem d_M_monthAt_35 : decode c_M_monthAt 35 = .ok (.bipush 9, 2) := by decide +kernel
theorem d_M_monthAt_37 : decode c_M_monthAt 37 = .ok (.if_icmp .ne 39, 3) := by decide +kernel
theorem d_M_monthAt_40 : decode c_M_monthAt 40 = .ok (.aload_n 0, 1) := by decide +kernel
theorem d_M_monthAt_41 : decode c_M_monthAt 41 = .ok (.bipush 9, 2) := by decide +kernel
theorem d_M_monthAt_43 : decode c_M_monthAt 43 = .ok (.lload_n 2, 1) := by decide +kernel
theorem d_M_monthAt_44 : decode c_M_monthAt 44 = .ok (.invokevirtual 106, 3) := by decide +kernel
theorem d_M_monthAt_47 : decode c_M_monthAt 47 = .ok (.istore 5, 2) := by decide +kernel
theorem d_M_monthAt_49 : decode c_M_monthAt 49 = .ok (.iload 4, 2) := by decide +kernel
theorem d_M_monthAt_51 : decode c_M_monthAt 51 = .ok (.bipush 7, 2) := by decide +kernel
theorem d_M_monthAt_53 : decode c_M_monthAt 53 = .ok (.iadd, 1) := by decide +kernel
theorem d_M_monthAt_54 : decode c_M_monthAt 54 = .ok (.iload 5, 2) := by decide +kernel
theorem d_M_monthAt_56 : decode c_M_monthAt 56 = .ok (.if_icmp .gt 11, 3) := by decide +kernel
theorem d_M_monthAt_59 : decode c_M_monthAt 59 = .ok (.iload 4, 2) := by decide +kernel
theorem d_M_monthAt_61 : decode c_M_monthAt 61 = .ok (.bipush 7, 2) := by decide +kernel
theorem d_M_monthAt_63 : decode c_M_monthAt 63 = .ok (.iadd, 1) := by decide +kernel
theorem d_M_monthAt_64 : decode c_M_monthAt 64 = .ok (.goto 11, 3) := by decide +kernel
theorem d_M_monthAt_67 : decode c_M_monthAt 67 = .ok (.iload 4, 2) := by decide +kernel
theorem d_M_monthAt_69 : decode c_M_monthAt 69 = .ok (.bipush 7, 2) := by decide +kernel
theorem d_M_monthAt_71 : decode c_M_monthAt 71 = .ok (.iadd, 1) := by decide +kernel
theorem d_M_monthAt_72 : decode c_M_monthAt 72 = .ok (.iload 5, 2) := by decide +kernel
theorem d_M_monthAt_74 : decode c_M_monthAt 74 = .ok (.isub, 1) := by decide +kernel
theorem d_M_monthAt_75 : decode c_M_monthAt 75 = .ok (.ireturn, 1) := by decide +kernel
theorem d_M_monthAt_76 : decode c_M_monthAt 76 = .ok (.iload 4, 2) := by decide +kernel
theorem d_M_monthAt_78 : decode c_M_monthAt 78 = .ok (.iconst 1, 1) := by decide +kernel
theorem d_M_monthAt_79 : decode c_M_monthAt 79 = .ok (.iadd, 1) := by decide +kernel
theorem d_M_monthAt_80 : decode c_M_monthAt 80 = .ok (.ireturn, 1) := by decide +kernel
theorem d_M_monthsOf_0 : decode c_M_monthsOf 0 = .ok (.iload_n 1, 1) := by decide +kernel
theorem d_M_monthsOf_1 : decode c_M_monthsOf 1 = .ok (.iconst 2, 1) := by decide +kernel
theorem d_M_monthsOf_2 : decode c_M_monthsOf 2 = .ok (.if_icmp .ge 6, 3) := by decide +kernel
theorem d_M_monthsOf_5 : decode c_M_monthsOf 5 = .ok (.bipush 12, 2) := by decide +kernel
theorem d_M_monthsOf_7 : decode c_M_monthsOf 7 = .ok (.ireturn, 1) := by decide +kernel
theorem d_M_monthsOf_8 : decode c_M_monthsOf 8 = .ok (.iload_n 1, 1) := by decide +kernel
theorem d_M_monthsOf_9 : decode c_M_monthsOf 9 = .ok (.bipush 9, 2) := by decide +kernel
theorem d_M_monthsOf_11 : decode c_M_monthsOf 11 = .ok (.if_icmp .ne 21, 3) := by decide +kernel
theorem d_M_monthsOf_14 : decode c_M_monthsOf 14 = .ok (.aload_n 0, 1) := by decide +kernel
theorem d_M_monthsOf_15 : decode c_M_monthsOf 15 = .ok (.bipush 9, 2) := by decide +kernel
theorem d_M_monthsOf_17 : decode c_M_monthsOf 17 = .ok (.lload_n 2, 1) := by decide +kernel
theorem d_M_monthsOf_18 : decode c_M_monthsOf 18 = .ok (.invokevirtual 102, 3) := by decide +kernel
theorem d_M_monthsOf_21 : decode c_M_monthsOf 21 = .ok (.ifCond .eq 8, 3) := by decide +kernel
theorem d_M_monthsOf_24 : decode c_M_monthsOf 24 = .ok (.bipush 13, 2) := by decide +kernel
theorem d_M_monthsOf_26 : decode c_M_monthsOf 26 = .ok (.goto 5, 3) := by decide +kernel
theorem d_M_monthsOf_29 : decode c_M_monthsOf 29 = .ok (.bipush 12, 2) := by decide +kernel
theorem d_M_monthsOf_31 : decode c_M_monthsOf 31 = .ok (.ireturn, 1) := by decide +kernel
theorem d_M_monthsOf_32 : decode c_M_monthsOf 32 = .ok (.iload_n 1, 1) := by decide +kernel
theorem d_M_monthsOf_33 : decode c_M_monthsOf 33 = .ok (.iconst 5, 1) := by decide +kernel
theorem d_M_monthsOf_34 : decode c_M_monthsOf 34 = .ok (.if_icmp .eq 9, 3) := by decide +kernel
theorem d_M_monthsOf_37 : decode c_M_monthsOf 37 = .ok (.iload_n 1, 1) := by decide +kernel
theorem d_M_monthsOf_38 : decode c_M_monthsOf 38 = .ok (.bipush 6, 2) := by decide +kernel
theorem d_M_monthsOf_40 : decode c_M_monthsOf 40 = .ok (.if_icmp .ne 8, 3) := by decide +kernel
theorem d_M_monthsOf_43 : decode c_M_monthsOf 43 = .ok (.bipush 12, 2) := by decide +kernel
theorem d_M_monthsOf_45 : decode c_M_monthsOf 45 = .ok (.goto 34, 3) := by decide +kernel
theorem d_M_monthsOf_48 : decode c_M_monthsOf 48 = .ok (.iload_n 1, 1) := by decide +kernel
theorem d_M_monthsOf_49 : decode c_M_monthsOf 49 = .ok (.bipush 8, 2) := by decide +kernel
theorem d_M_monthsOf_51 : decode c_M_monthsOf 51 = .ok (.if_icmp .ne 8, 3) := by decide +kernel
theorem d_M_monthsOf_54 : decode c_M_monthsOf 54 = .ok (.bipush 20, 2) := by decide +kernel
theorem d_M_monthsOf_56 : decode c_M_monthsOf 56 = .ok (.goto 23, 3) := by decide +kernel
theorem d_M_monthsOf_59 : decode c_M_monthsOf 59 = .ok (.iload_n 1, 1) := by decide +kernel
theorem d_M_monthsOf_60 : decode c_M_monthsOf 60 = .ok (.bipush 11, 2) := by decide +kernel
theorem d_M_monthsOf_62 : decode c_M_monthsOf 62 = .ok (.if_icmp .le 15, 3) := by decide +kernel
theorem d_M_monthsOf_65 : decode c_M_monthsOf 65 = .ok (.aload_n 0, 1) := by decide +kernel
theorem d_M_monthsOf_66 : decode c_M_monthsOf 66 = .ok (.getfield 21, 3) := by decide +kernel
theorem d_M_monthsOf_69 : decode c_M_monthsOf 69 = .ok (.iload_n 1, 1) := by decide +kernel
theorem d_M_monthsOf_70 : decode c_M_monthsOf 70 = .ok (.bipush 12, 2) := by decide +kernel
theorem d_M_monthsOf_72 : decode c_M_monthsOf 72 = .ok (.isub, 1) := by decide +kernel
theorem d_M_monthsOf_73 : decode c_M_monthsOf 73 = .ok (.iaload, 1) := by decide +kernel
theorem d_M_monthsOf_74 : decode c_M_monthsOf 74 = .ok (.goto 5, 3) := by decide +kernel
theorem d_M_monthsOf_77 : decode c_M_monthsOf 77 = .ok (.bipush 13, 2) := by decide +kernel
theorem d_M_monthsOf_79 : decode c_M_monthsOf 79 = .ok (.ireturn, 1) := by decide +kernel
theorem d_M_moonLength_0 : decode c_M_moonLength 0 = .ok (.lload_n 1, 1) := by decide +kernel
theorem d_M_moonLength_1 : decode c_M_moonLength 1 = .ok (.lconst 1, 1) := by decide +kernel
theorem d_M_moonLength_2 : decode c_M_moonLength 2 = .ok (.ladd, 1) := by decide +kernel
theorem d_M_moonLength_3 : decode c_M_moonLength 3 = .ok (.invokestatic 158, 3) := by decide +kernel
theorem d_M_moonLength_6 : decode c_M_moonLength 6 = .ok (.lload_n 1, 1) := by decide +kernel
theorem d_M_moonLength_7 : decode c_M_moonLength 7 = .ok (.invokestatic 158, 3) := by decide +kernel
theorem d_M_moonLength_10 : decode c_M_moonLength 10 = .ok (.lsub, 1) := by decide +kernel
theorem d_M_moonLength_11 : decode c_M_moonLength 11 = .ok (.lstore 5, 2) := by decide +kernel
theorem d_M_moonLength_13 : decode c_M_moonLength 13 = .ok (.iload_n 3, 1) := by decide +kernel
theorem d_M_moonLength_14 : decode c_M_moonLength 14 = .ok (.bipush 8, 2) := by decide +kernel
theorem d_M_moonLength_16 : decode c_M_moonLength 16 = .ok (.if_icmp .ne 29, 3) := by decide +kernel
theorem d_M_moonLength_19 : decode c_M_moonLength 19 = .ok (.lload 5, 2) := by decide +kernel
theorem d_M_moonLength_21 : decode c_M_moonLength 21 = .ok (.ldc2_w 161, 3) := by decide +kernel
theorem d_M_moonLength_24 : decode c_M_moonLength 24 = .ok (.lcmp, 1) := by decide +kernel
theorem d_M_moonLength_25 : decode c_M_moonLength 25 = .ok (.ifCond .eq 12, 3) := by decide +kernel
theorem d_M_moonLength_28 : decode c_M_moonLength 28 = .ok (.lload 5, 2) := by decide +kernel
theorem d_M_moonLength_30 : decode c_M_moonLength 30 = .ok (.ldc2_w 163, 3) := by decide +kernel
theorem d_M_moonLength_33 : decode c_M_moonLength 33 = .ok (.lcmp, 1) := by decide +kernel
theorem d_M_moonLength_34 : decode c_M_moonLength 34 = .ok (.ifCond .ne 8, 3) := by decide +kernel
theorem d_M_moonLength_37 : decode c_M_moonLength 37 = .ok (.bipush 30, 2) := by decide +kernel
theorem d_M_moonLength_39 : decode c_M_moonLength 39 = .ok (.goto 5, 3) := by decide +kernel
theorem d_M_moonLength_42 : decode c_M_moonLength 42 = .ok (.bipush 29, 2) := by decide +kernel
theorem d_M_moonLength_44 : decode c_M_moonLength 44 = .ok (.ireturn, 1) := by decide +kernel
theorem d_M_moonLength_45 : decode c_M_moonLength 45 = .ok (.iload_n 3, 1) := by decide +kernel
theorem d_M_moonLength_46 : decode c_M_moonLength 46 = .ok (.bipush 9, 2) := by decide +kernel
theorem d_M_moonLength_48 : decode c_M_moonLength 48 = .ok (.if_icmp .ne 29, 3) := by decide +kernel
theorem d_M_moonLength_51 : decode c_M_moonLength 51 = .ok (.lload 5, 2) := by decide +kernel
theorem d_M_moonLength_53 : decode c_M_moonLength 53 = .ok (.ldc2_w 165, 3) := by decide +kernel
theorem d_M_moonLength_56 : decode c_M_moonLength 56 = .ok (.lcmp, 1) := by decide +kernel
theorem d_M_moonLength_57 : decode c_M_moonLength 57 = .ok (.ifCond .eq 12, 3) := by decide +kernel
theorem d_M_moonLength_60 : decode c_M_moonLength 60 = .ok (.lload 5, 2) := by decide +kernel
theorem d_M_moonLength_62 : decode c_M_moonLength 62 = .ok (.ldc2_w 167, 3) := by decide +kernel
theorem d_M_moonLength_65 : decode c_M_moonLength 65 = .ok (.lcmp, 1) := by decide +kernel
theorem d_M_moonLength_66 : decode c_M_moonLength 66 = .ok (.ifCond .ne 8, 3) := by decide +kernel
theorem d_M_moonLength_69 : decode c_M_moonLength 69 = .ok (.bipush 29, 2) := by decide +kernel
theorem d_M_moonLength_71 : decode c_M_moonLength 71 = .ok (.goto 5, 3) := by decide +kernel
theorem d_M_moonLength_74 : decode c_M_moonLength 74 = .ok (.bipush 30, 2) := by decide +kernel
theorem d_M_moonLength_76 : decode c_M_moonLength 76 = .ok (.ireturn, 1) := by decide +kernel
theorem d_M_moonLength_77 : decode c_M_moonLength 77 = .ok (.iload_n 3, 1) := by decide +kernel
theorem d_M_moonLength_78 : decode c_M_moonLength 78 = .ok (.bipush 12, 2) := by decide +kernel
theorem d_M_moonLength_80 : decode c_M_moonLength 80 = .ok (.if_icmp .ne 16, 3) := by decide +kernel
theorem d_M_moonLength_83 : decode c_M_moonLength 83 = .ok (.iload 4, 2) := by decide +kernel
theorem d_M_moonLength_85 : decode c_M_moonLength 85 = .ok (.ifCond .eq 8, 3) := by decide +kernel
theorem d_M_moonLength_88 : decode c_M_moonLength 88 = .ok (.bipush 30, 2) := by decide +kernel
theorem d_M_moonLength_90 : decode c_M_moonLength 90 = .ok (.goto 5, 3) := by decide +kernel
theorem d_M_moonLength_93 : decode c_M_moonLength 93 = .ok (.bipush 29, 2) := by decide +kernel
theorem d_M_moonLength_95 : decode c_M_moonLength 95 = .ok (.ireturn, 1) := by decide +kernel
theorem d_M_moonLength_96 : decode c_M_moonLength 96 = .ok (.iload_n 3, 1) := by decide +kernel
theorem d_M_moonLength_97 : decode c_M_moonLength 97 = .ok (.bipush 7, 2) := by decide +kernel
theorem d_M_moonLength_99 : decode c_M_moonLength 99 = .ok (.if_icmp .eq 24, 3) := by decide +kernel
theorem d_M_moonLength_102 : decode c_M_moonLength 102 = .ok (.iload_n 3, 1) := by decide +kernel
theorem d_M_moonLength_103 : decode c_M_moonLength 103 = .ok (.bipush 11, 2) := by decide +kernel
theorem d_M_moonLength_105 : decode c_M_moonLength 105 = .ok (.if_icmp .eq 18, 3) := by decide +kernel
theorem d_M_moonLength_108 : decode c_M_moonLength 108 = .ok (.iload_n 3, 1) := by decide +kernel
theorem d_M_moonLength_109 : decode c_M_moonLength 109 = .ok (.iconst 1, 1) := by decide +kernel
theorem d_M_moonLength_110 : decode c_M_moonLength 110 = .ok (.if_icmp .eq 13, 3) := by decide +kernel
theorem d_M_moonLength_113 : decode c_M_moonLength 113 = .ok (.iload_n 3, 1) := by decide +kernel
theorem d_M_moonLength_114 : decode c_M_moonLength 114 = .ok (.iconst 3, 1) := by decide +kernel
theorem d_M_moonLength_115 : decode c_M_moonLength 115 = .ok (.if_icmp .eq 8, 3) := by decide +kernel
theorem d_M_moonLength_118 : decode c_M_moonLength 118 = .ok (.iload_n 3, 1) := by decide +kernel
theorem d_M_moonLength_119 : decode c_M_moonLength 119 = .ok (.iconst 5, 1) := by decide +kernel
theorem d_M_moonLength_120 : decode c_M_moonLength 120 = .ok (.if_icmp .ne 8, 3) := by decide +kernel
theorem d_M_moonLength_123 : decode c_M_moonLength 123 = .ok (.bipush 30, 2) := by decide +kernel
theorem d_M_moonLength_125 : decode c_M_moonLength 125 = .ok (.goto 5, 3) := by decide +kernel
theorem d_M_moonLength_128 : decode c_M_moonLength 128 = .ok (.bipush 29, 2) := by decide +kernel
theorem d_M_moonLength_130 : decode c_M_moonLength 130 = .ok (.ireturn, 1) := by decide +kernel
theorem d_M_moonStart_0 : decode c_M_moonStart 0 = .ok (.lload_n 0, 1) := by decide +kernel
theorem d_M_moonStart_1 : decode c_M_moonStart 1 = .ok (.lconst 1, 1) := by decide +kernel
theorem d_M_moonStart_2 : decode c_M_moonStart 2 = .ok (.lsub, 1) := by decide +kernel
theorem d_M_moonStart_3 : decode c_M_moonStart 3 = .ok (.invokestatic 146, 3) := by decide +kernel
theorem d_M_moonStart_6 : decode c_M_moonStart 6 = .ok (.lstore_n 2, 1) := by decide +kernel
theorem d_M_moonStart_7 : decode c_M_moonStart 7 = .ok (.lload_n 0, 1) := by decide +kernel
theorem d_M_moonStart_8 : decode c_M_moonStart 8 = .ok (.invokestatic 146, 3) := by decide +kernel
theorem d_M_moonStart_11 : decode c_M_moonStart 11 = .ok (.lstore 4, 2) := by decide +kernel
theorem d_M_moonStart_13 : decode c_M_moonStart 13 = .ok (.lload_n 0, 1) := by decide +kernel
theorem d_M_moonStart_14 : decode c_M_moonStart 14 = .ok (.lconst 1, 1) := by decide +kernel
theorem d_M_moonStart_15 : decode c_M_moonStart 15 = .ok (.ladd, 1) := by decide +kernel
theorem d_M_moonStart_16 : decode c_M_moonStart 16 = .ok (.invokestatic 146, 3) := by decide +kernel
theorem d_M_moonStart_19 : decode c_M_moonStart 19 = .ok (.lstore 6, 2) := by decide +kernel
theorem d_M_moonStart_21 : decode c_M_moonStart 21 = .ok (.lload 4, 2) := by decide +kernel
theorem d_M_moonStart_23 : decode c_M_moonStart 23 = .ok (.ldc2_w 150, 3) := by decide +kernel
theorem d_M_moonStart_26 : decode c_M_moonStart 26 = .ok (.lsub, 1) := by decide +kernel
theorem d_M_moonStart_27 : decode c_M_moonStart 27 = .ok (.lload 6, 2) := by decide +kernel
theorem d_M_moonStart_29 : decode c_M_moonStart 29 = .ok (.lload 4, 2) := by decide +kernel
theorem d_M_moonStart_31 : decode c_M_moonStart 31 = .ok (.lsub, 1) := by decide +kernel
theorem d_M_moonStart_32 : decode c_M_moonStart 32 = .ok (.ldc2_w 152, 3) := by decide +kernel
theorem d_M_moonStart_35 : decode c_M_moonStart 35 = .ok (.lcmp, 1) := by decide +kernel
theorem d_M_moonStart_36 : decode c_M_moonStart 36 = .ok (.ifCond .ne 9, 3) := by decide +kernel
theorem d_M_moonStart_39 : decode c_M_moonStart 39 = .ok (.ldc2_w 154, 3) := by decide +kernel
theorem d_M_moonStart_42 : decode c_M_moonStart 42 = .ok (.goto 19, 3) := by decide +kernel
theorem d_M_moonStart_45 : decode c_M_moonStart 45 = .ok (.lload 4, 2) := by decide +kernel
theorem d_M_moonStart_47 : decode c_M_moonStart 47 = .ok (.lload_n 2, 1) := by decide +kernel
theorem d_M_moonStart_48 : decode c_M_moonStart 48 = .ok (.lsub, 1) := by decide +kernel
theorem d_M_moonStart_49 : decode c_M_moonStart 49 = .ok (.ldc2_w 156, 3) := by decide +kernel
theorem d_M_moonStart_52 : decode c_M_moonStart 52 = .ok (.lcmp, 1) := by decide +kernel
theorem d_M_moonStart_53 : decode c_M_moonStart 53 = .ok (.ifCond .ne 7, 3) := by decide +kernel
theorem d_M_moonStart_56 : decode c_M_moonStart 56 = .ok (.lconst 1, 1) := by decide +kernel
theorem d_M_moonStart_57 : decode c_M_moonStart 57 = .ok (.goto 4, 3) := by decide +kernel
theorem d_M_moonStart_60 : decode c_M_moonStart 60 = .ok (.lconst 0, 1) := by decide +kernel
theorem d_M_moonStart_61 : decode c_M_moonStart 61 = .ok (.ladd, 1) := by decide +kernel
theorem d_M_moonStart_62 : decode c_M_moonStart 62 = .ok (.lreturn, 1) := by decide +kernel
theorem d_M_moons_0 : decode c_M_moons 0 = .ok (.ldc2_w 134, 3) := by decide +kernel
theorem d_M_moons_3 : decode c_M_moons 3 = .ok (.lload_n 0, 1) := by decide +kernel
theorem d_M_moons_4 : decode c_M_moons 4 = .ok (.lmul, 1) := by decide +kernel
theorem d_M_moons_5 : decode c_M_moons 5 = .ok (.ldc2_w 136, 3) := by decide +kernel
theorem d_M_moons_8 : decode c_M_moons 8 = .ok (.lsub, 1) := by decide +kernel
theorem d_M_moons_9 : decode c_M_moons 9 = .ok (.ldc2_w 100, 3) := by decide +kernel
theorem d_M_moons_12 : decode c_M_moons 12 = .ok (.invokestatic 55, 3) := by decide +kernel
theorem d_M_moons_15 : decode c_M_moons 15 = .ok (.lstore_n 2, 1) := by decide +kernel
theorem d_M_moons_16 : decode c_M_moons 16 = .ok (.ldc2_w 138, 3) := by decide +kernel
theorem d_M_moons_19 : decode c_M_moons 19 = .ok (.lload_n 2, 1) := by decide +kernel
theorem d_M_moons_20 : decode c_M_moons 20 = .ok (.lmul, 1) := by decide +kernel
theorem d_M_moons_21 : decode c_M_moons 21 = .ok (.ldc2_w 140, 3) := by decide +kernel
theorem d_M_moons_24 : decode c_M_moons 24 = .ok (.ldc2_w 142, 3) := by decide +kernel
theorem d_M_moons_27 : decode c_M_moons 27 = .ok (.lload_n 2, 1) := by decide +kernel
theorem d_M_moons_28 : decode c_M_moons 28 = .ok (.lmul, 1) := by decide +kernel
theorem d_M_moons_29 : decode c_M_moons 29 = .ok (.ladd, 1) := by decide +kernel
theorem d_M_moons_30 : decode c_M_moons 30 = .ok (.ldc2_w 144, 3) := by decide +kernel
theorem d_M_moons_33 : decode c_M_moons 33 = .ok (.invokestatic 55, 3) := by decide +kernel
theorem d_M_moons_36 : decode c_M_moons 36 = .ok (.ladd, 1) := by decide +kernel
theorem d_M_moons_37 : decode c_M_moons 37 = .ok (.lstore 4, 2) := by decide +kernel
theorem d_M_moons_39 : decode c_M_moons 39 = .ok (.ldc2_w 76, 3) := by decide +kernel
theorem d_M_moons_42 : decode c_M_moons 42 = .ok (.lload 4, 2) := by decide +kernel
theorem d_M_moons_44 : decode c_M_moons 44 = .ok (.lmul, 1) := by decide +kernel
theorem d_M_moons_45 : decode c_M_moons 45 = .ok (.ldc2_w 76, 3) := by decide +kernel
theorem d_M_moons_48 : decode c_M_moons 48 = .ok (.ladd, 1) := by decide +kernel
theorem d_M_moons_49 : decode c_M_moons 49 = .ok (.ldc2_w 98, 3) := by decide +kernel
theorem d_M_moons_52 : decode c_M_moons 52 = .ok (.invokestatic 65, 3) := by decide +kernel
theorem d_M_moons_55 : decode c_M_moons 55 = .ok (.ldc2_w 76, 3) := by decide +kernel
theorem d_M_moons_58 : decode c_M_moons 58 = .ok (.lcmp, 1) := by decide +kernel
theorem d_M_moons_59 : decode c_M_moons 59 = .ok (.ifCond .ge 10, 3) := by decide +kernel
theorem d_M_moons_62 : decode c_M_moons 62 = .ok (.lload 4, 2) := by decide +kernel
theorem d_M_moons_64 : decode c_M_moons 64 = .ok (.lconst 1, 1) := by decide +kernel
theorem d_M_moons_65 : decode c_M_moons 65 = .ok (.ladd, 1) := by decide +kernel
theorem d_M_moons_66 : decode c_M_moons 66 = .ok (.goto 5, 3) := by decide +kernel
theorem d_M_moons_69 : decode c_M_moons 69 = .ok (.lload 4, 2) := by decide +kernel
theorem d_M_moons_71 : decode c_M_moons 71 = .ok (.lreturn, 1) := by decide +kernel
theorem d_M_named_0 : decode c_M_named 0 = .ok (.iload_n 0, 1) := by decide +kernel
theorem d_M_named_1 : decode c_M_named 1 = .ok (.invokestatic 59, 3) := by decide +kernel
theorem d_M_named_4 : decode c_M_named 4 = .ok (.ifCond .eq 15, 3) := by decide +kernel
theorem d_M_named_7 : decode c_M_named 7 = .ok (.lload_n 1, 1) := by decide +kernel
theorem d_M_named_8 : decode c_M_named 8 = .ok (.lconst 1, 1) := by decide +kernel
theorem d_M_named_9 : decode c_M_named 9 = .ok (.lcmp, 1) := by decide +kernel
theorem d_M_named_10 : decode c_M_named 10 = .ok (.ifCond .ge 9, 3) := by decide +kernel
theorem d_M_named_13 : decode c_M_named 13 = .ok (.lload_n 1, 1) := by decide +kernel
theorem d_M_named_14 : decode c_M_named 14 = .ok (.lconst 1, 1) := by decide +kernel
theorem d_M_named_15 : decode c_M_named 15 = .ok (.lsub, 1) := by decide +kernel
theorem d_M_named_16 : decode c_M_named 16 = .ok (.goto 4, 3) := by decide +kernel
theorem d_M_named_19 : decode c_M_named 19 = .ok (.lload_n 1, 1) := by decide +kernel
theorem d_M_named_20 : decode c_M_named 20 = .ok (.lreturn, 1) := by decide +kernel
theorem d_M_numberIn_0 : decode c_M_numberIn 0 = .ok (.iload_n 1, 1) := by decide +kernel
theorem d_M_numberIn_1 : decode c_M_numberIn 1 = .ok (.iload_n 2, 1) := by decide +kernel
theorem d_M_numberIn_2 : decode c_M_numberIn 2 = .ok (.if_icmp .ge 20, 3) := by decide +kernel
theorem d_M_numberIn_5 : decode c_M_numberIn 5 = .ok (.aload_n 0, 1) := by decide +kernel
theorem d_M_numberIn_6 : decode c_M_numberIn 6 = .ok (.getfield 44, 3) := by decide +kernel
theorem d_M_numberIn_9 : decode c_M_numberIn 9 = .ok (.iload_n 1, 1) := by decide +kernel
theorem d_M_numberIn_10 : decode c_M_numberIn 10 = .ok (.caload, 1) := by decide +kernel
theorem d_M_numberIn_11 : decode c_M_numberIn 11 = .ok (.bipush 45, 2) := by decide +kernel
theorem d_M_numberIn_13 : decode c_M_numberIn 13 = .ok (.if_icmp .ne 9, 3) := by decide +kernel
theorem d_M_numberIn_16 : decode c_M_numberIn 16 = .ok (.iload_n 1, 1) := by decide +kernel
theorem d_M_numberIn_17 : decode c_M_numberIn 17 = .ok (.iconst 1, 1) := by decide +kernel
theorem d_M_numberIn_18 : decode c_M_numberIn 18 = .ok (.iadd, 1) := by decide +kernel
theorem d_M_numberIn_19 : decode c_M_numberIn 19 = .ok (.goto 4, 3) := by decide +kernel
theorem d_M_numberIn_22 : decode c_M_numberIn 22 = .ok (.iload_n 1, 1) := by decide +kernel
theorem d_M_numberIn_23 : decode c_M_numberIn 23 = .ok (.istore_n 3, 1) := by decide +kernel
theorem d_M_numberIn_24 : decode c_M_numberIn 24 = .ok (.iload_n 3, 1) := by decide +kernel
theorem d_M_numberIn_25 : decode c_M_numberIn 25 = .ok (.iload_n 2, 1) := by decide +kernel
theorem d_M_numberIn_26 : decode c_M_numberIn 26 = .ok (.if_icmp .ge 38, 3) := by decide +kernel
theorem d_M_numberIn_29 : decode c_M_numberIn 29 = .ok (.iload_n 2, 1) := by decide +kernel
theorem d_M_numberIn_30 : decode c_M_numberIn 30 = .ok (.iload_n 3, 1) := by decide +kernel
theorem d_M_numberIn_31 : decode c_M_numberIn 31 = .ok (.isub, 1) := by decide +kernel
theorem d_M_numberIn_32 : decode c_M_numberIn 32 = .ok (.bipush 7, 2) := by decide +kernel
theorem d_M_numberIn_34 : decode c_M_numberIn 34 = .ok (.if_icmp .gt 30, 3) := by decide +kernel
theorem d_M_numberIn_37 : decode c_M_numberIn 37 = .ok (.aload_n 0, 1) := by decide +kernel
theorem d_M_numberIn_38 : decode c_M_numberIn 38 = .ok (.getfield 44, 3) := by decide +kernel
theorem d_M_numberIn_41 : decode c_M_numberIn 41 = .ok (.iload_n 3, 1) := by decide +kernel
theorem d_M_numberIn_42 : decode c_M_numberIn 42 = .ok (.caload, 1) := by decide +kernel
theorem d_M_numberIn_43 : decode c_M_numberIn 43 = .ok (.bipush 48, 2) := by decide +kernel
theorem d_M_numberIn_45 : decode c_M_numberIn 45 = .ok (.if_icmp .ne 15, 3) := by decide +kernel
theorem d_M_numberIn_48 : decode c_M_numberIn 48 = .ok (.iload_n 2, 1) := by decide +kernel
theorem d_M_numberIn_49 : decode c_M_numberIn 49 = .ok (.iload_n 3, 1) := by decide +kernel
theorem d_M_numberIn_50 : decode c_M_numberIn 50 = .ok (.iconst 1, 1) := by decide +kernel
theorem d_M_numberIn_51 : decode c_M_numberIn 51 = .ok (.iadd, 1) := by decide +kernel
theorem d_M_numberIn_52 : decode c_M_numberIn 52 = .ok (.if_icmp .ne 12, 3) := by decide +kernel
theorem d_M_numberIn_55 : decode c_M_numberIn 55 = .ok (.iload_n 3, 1) := by decide +kernel
theorem d_M_numberIn_56 : decode c_M_numberIn 56 = .ok (.iload_n 1, 1) := by decide +kernel
theorem d_M_numberIn_57 : decode c_M_numberIn 57 = .ok (.if_icmp .ne 7, 3) := by decide +kernel
theorem d_M_numberIn_60 : decode c_M_numberIn 60 = .ok (.iconst 1, 1) := by decide +kernel
theorem d_M_numberIn_61 : decode c_M_numberIn 61 = .ok (.goto 4, 3) := by decide +kernel
theorem d_M_numberIn_64 : decode c_M_numberIn 64 = .ok (.iconst 0, 1) := by decide +kernel
theorem d_M_numberIn_65 : decode c_M_numberIn 65 = .ok (.istore 4, 2) := by decide +kernel
theorem d_M_numberIn_67 : decode c_M_numberIn 67 = .ok (.iconst 0, 1) := by decide +kernel
theorem d_M_numberIn_68 : decode c_M_numberIn 68 = .ok (.istore 5, 2) := by decide +kernel
theorem d_M_numberIn_70 : decode c_M_numberIn 70 = .ok (.iload_n 3, 1) := by decide +kernel
theorem d_M_numberIn_71 : decode c_M_numberIn 71 = .ok (.istore 6, 2) := by decide +kernel
theorem d_M_numberIn_73 : decode c_M_numberIn 73 = .ok (.iload 6, 2) := by decide +kernel
theorem d_M_numberIn_75 : decode c_M_numberIn 75 = .ok (.iload_n 2, 1) := by decide +kernel
theorem d_M_numberIn_76 : decode c_M_numberIn 76 = .ok (.if_icmp .ge 63, 3) := by decide +kernel
theorem d_M_numberIn_79 : decode c_M_numberIn 79 = .ok (.iload 4, 2) := by decide +kernel
theorem d_M_numberIn_81 : decode c_M_numberIn 81 = .ok (.ifCond .eq 58, 3) := by decide +kernel
theorem d_M_numberIn_84 : decode c_M_numberIn 84 = .ok (.aload_n 0, 1) := by decide +kernel
theorem d_M_numberIn_85 : decode c_M_numberIn 85 = .ok (.getfield 44, 3) := by decide +kernel
theorem d_M_numberIn_88 : decode c_M_numberIn 88 = .ok (.iload 6, 2) := by decide +kernel
theorem d_M_numberIn_90 : decode c_M_numberIn 90 = .ok (.caload, 1) := by decide +kernel
theorem d_M_numberIn_91 : decode c_M_numberIn 91 = .ok (.bipush 48, 2) := by decide +kernel
theorem d_M_numberIn_93 : decode c_M_numberIn 93 = .ok (.if_icmp .lt 19, 3) := by decide +kernel
theorem d_M_numberIn_96 : decode c_M_numberIn 96 = .ok (.aload_n 0, 1) := by decide +kernel
theorem d_M_numberIn_97 : decode c_M_numberIn 97 = .ok (.getfield 44, 3) := by decide +kernel
theorem d_M_numberIn_100 : decode c_M_numberIn 100 = .ok (.iload 6, 2) := by decide +kernel
theorem d_M_numberIn_102 : decode c_M_numberIn 102 = .ok (.caload, 1) := by decide +kernel
theorem d_M_numberIn_103 : decode c_M_numberIn 103 = .ok (.bipush 57, 2) := by decide +kernel
theorem d_M_numberIn_105 : decode c_M_numberIn 105 = .ok (.if_icmp .gt 7, 3) := by decide +kernel
theorem d_M_numberIn_108 : decode c_M_numberIn 108 = .ok (.iconst 1, 1) := by decide +kernel
theorem d_M_numberIn_109 : decode c_M_numberIn 109 = .ok (.goto 4, 3) := by decide +kernel
theorem d_M_numberIn_112 : decode c_M_numberIn 112 = .ok (.iconst 0, 1) := by decide +kernel
theorem d_M_numberIn_113 : decode c_M_numberIn 113 = .ok (.istore 4, 2) := by decide +kernel
theorem d_M_numberIn_115 : decode c_M_numberIn 115 = .ok (.bipush 10, 2) := by decide +kernel
theorem d_M_numberIn_117 : decode c_M_numberIn 117 = .ok (.iload 5, 2) := by decide +kernel
theorem d_M_numberIn_119 : decode c_M_numberIn 119 = .ok (.imul, 1) := by decide +kernel
theorem d_M_numberIn_120 : decode c_M_numberIn 120 = .ok (.aload_n 0, 1) := by decide +kernel
theorem d_M_numberIn_121 : decode c_M_numberIn 121 = .ok (.getfield 44, 3) := by decide +kernel
theorem d_M_numberIn_124 : decode c_M_numberIn 124 = .ok (.iload 6, 2) := by decide +kernel
theorem d_M_numberIn_126 : decode c_M_numberIn 126 = .ok (.caload, 1) := by decide +kernel
theorem d_M_numberIn_127 : decode c_M_numberIn 127 = .ok (.bipush 48, 2) := by decide +kernel
theorem d_M_numberIn_129 : decode c_M_numberIn 129 = .ok (.isub, 1) := by decide +kernel
theorem d_M_numberIn_130 : decode c_M_numberIn 130 = .ok (.iadd, 1) := by decide +kernel
theorem d_M_numberIn_131 : decode c_M_numberIn 131 = .ok (.istore 5, 2) := by decide +kernel
theorem d_M_numberIn_133 : decode c_M_numberIn 133 = .ok (.iinc 6 1, 3) := by decide +kernel
theorem d_M_numberIn_136 : decode c_M_numberIn 136 = .ok (.goto (-63), 3) := by decide +kernel
theorem d_M_numberIn_139 : decode c_M_numberIn 139 = .ok (.iload 4, 2) := by decide +kernel
theorem d_M_numberIn_141 : decode c_M_numberIn 141 = .ok (.ifCond .ne 8, 3) := by decide +kernel
theorem d_M_numberIn_144 : decode c_M_numberIn 144 = .ok (.ldc 39, 2) := by decide +kernel
theorem d_M_numberIn_146 : decode c_M_numberIn 146 = .ok (.goto 16, 3) := by decide +kernel
theorem d_M_numberIn_149 : decode c_M_numberIn 149 = .ok (.iload_n 3, 1) := by decide +kernel
theorem d_M_numberIn_150 : decode c_M_numberIn 150 = .ok (.iload_n 1, 1) := by decide +kernel
theorem d_M_numberIn_151 : decode c_M_numberIn 151 = .ok (.if_icmp .le 9, 3) := by decide +kernel
theorem d_M_numberIn_154 : decode c_M_numberIn 154 = .ok (.iload 5, 2) := by decide +kernel
theorem d_M_numberIn_156 : decode c_M_numberIn 156 = .ok (.ineg, 1) := by decide +kernel
theorem d_M_numberIn_157 : decode c_M_numberIn 157 = .ok (.goto 5, 3) := by decide +kernel
theorem d_M_numberIn_160 : decode c_M_numberIn 160 = .ok (.iload 5, 2) := by decide +kernel
theorem d_M_numberIn_162 : decode c_M_numberIn 162 = .ok (.ireturn, 1) := by decide +kernel
theorem d_M_onOrBefore_0 : decode c_M_onOrBefore 0 = .ok (.aload_n 0, 1) := by decide +kernel
theorem d_M_onOrBefore_1 : decode c_M_onOrBefore 1 = .ok (.iload_n 1, 1) := by decide +kernel
theorem d_M_onOrBefore_2 : decode c_M_onOrBefore 2 = .ok (.ifCond .lt 9, 3) := by decide +kernel
theorem d_M_onOrBefore_5 : decode c_M_onOrBefore 5 = .ok (.iload_n 1, 1) := by decide +kernel
theorem d_M_onOrBefore_6 : decode c_M_onOrBefore 6 = .ok (.bipush 6, 2) := by decide +kernel
theorem d_M_onOrBefore_8 : decode c_M_onOrBefore 8 = .ok (.if_icmp .le 7, 3) := by decide +kernel
theorem d_M_onOrBefore_11 : decode c_M_onOrBefore 11 = .ok (.iconst 1, 1) := by decide +kernel
theorem d_M_onOrBefore_12 : decode c_M_onOrBefore 12 = .ok (.goto 35, 3) := by decide +kernel
theorem d_M_onOrBefore_15 : decode c_M_onOrBefore 15 = .ok (.iload_n 2, 1) := by decide +kernel
theorem d_M_onOrBefore_16 : decode c_M_onOrBefore 16 = .ok (.i2l, 1) := by decide +kernel
theorem d_M_onOrBefore_17 : decode c_M_onOrBefore 17 = .ok (.invokestatic 272, 3) := by decide +kernel
theorem d_M_onOrBefore_20 : decode c_M_onOrBefore 20 = .ok (.ifCond .eq 22, 3) := by decide +kernel
theorem d_M_onOrBefore_23 : decode c_M_onOrBefore 23 = .ok (.iload_n 2, 1) := by decide +kernel
theorem d_M_onOrBefore_24 : decode c_M_onOrBefore 24 = .ok (.i2l, 1) := by decide +kernel
theorem d_M_onOrBefore_25 : decode c_M_onOrBefore 25 = .ok (.iload_n 2, 1) := by decide +kernel
theorem d_M_onOrBefore_26 : decode c_M_onOrBefore 26 = .ok (.iload_n 1, 1) := by decide +kernel
theorem d_M_onOrBefore_27 : decode c_M_onOrBefore 27 = .ok (.isub, 1) := by decide +kernel
theorem d_M_onOrBefore_28 : decode c_M_onOrBefore 28 = .ok (.i2l, 1) := by decide +kernel
theorem d_M_onOrBefore_29 : decode c_M_onOrBefore 29 = .ok (.ldc2_w 98, 3) := by decide +kernel
theorem d_M_onOrBefore_32 : decode c_M_onOrBefore 32 = .ok (.invokestatic 65, 3) := by decide +kernel
theorem d_M_onOrBefore_35 : decode c_M_onOrBefore 35 = .ok (.lsub, 1) := by decide +kernel
theorem d_M_onOrBefore_36 : decode c_M_onOrBefore 36 = .ok (.invokestatic 272, 3) := by decide +kernel
theorem d_M_onOrBefore_39 : decode c_M_onOrBefore 39 = .ok (.ifCond .ne 7, 3) := by decide +kernel
theorem d_M_onOrBefore_42 : decode c_M_onOrBefore 42 = .ok (.iconst 2, 1) := by decide +kernel
theorem d_M_onOrBefore_43 : decode c_M_onOrBefore 43 = .ok (.goto 4, 3) := by decide +kernel
theorem d_M_onOrBefore_46 : decode c_M_onOrBefore 46 = .ok (.iconst 0, 1) := by decide +kernel
theorem d_M_onOrBefore_47 : decode c_M_onOrBefore 47 = .ok (.putfield 52, 3) := by decide +kernel
theorem d_M_onOrBefore_50 : decode c_M_onOrBefore 50 = .ok (.aload_n 0, 1) := by decide +kernel
theorem d_M_onOrBefore_51 : decode c_M_onOrBefore 51 = .ok (.getfield 52, 3) := by decide +kernel
theorem d_M_onOrBefore_54 : decode c_M_onOrBefore 54 = .ok (.ifCond .le 7, 3) := by decide +kernel
theorem d_M_onOrBefore_57 : decode c_M_onOrBefore 57 = .ok (.iconst 0, 1) := by decide +kernel
theorem d_M_onOrBefore_58 : decode c_M_onOrBefore 58 = .ok (.goto 16, 3) := by decide +kernel
theorem d_M_onOrBefore_61 : decode c_M_onOrBefore 61 = .ok (.iload_n 2, 1) := by decide +kernel
theorem d_M_onOrBefore_62 : decode c_M_onOrBefore 62 = .ok (.iload_n 2, 1) := by decide +kernel
theorem d_M_onOrBefore_63 : decode c_M_onOrBefore 63 = .ok (.iload_n 1, 1) := by decide +kernel
theorem d_M_onOrBefore_64 : decode c_M_onOrBefore 64 = .ok (.isub, 1) := by decide +kernel
theorem d_M_onOrBefore_65 : decode c_M_onOrBefore 65 = .ok (.i2l, 1) := by decide +kernel
theorem d_M_onOrBefore_66 : decode c_M_onOrBefore 66 = .ok (.ldc2_w 98, 3) := by decide +kernel
theorem d_M_onOrBefore_69 : decode c_M_onOrBefore 69 = .ok (.invokestatic 65, 3) := by decide +kernel
theorem d_M_onOrBefore_72 : decode c_M_onOrBefore 72 = .ok (.l2i, 1) := by decide +kernel
theorem d_M_onOrBefore_73 : decode c_M_onOrBefore 73 = .ok (.isub, 1) := by decide +kernel
theorem d_M_onOrBefore_74 : decode c_M_onOrBefore 74 = .ok (.ireturn, 1) := by decide +kernel
theorem d_M_plainLength_0 : decode c_M_plainLength 0 = .ok (.iload_n 1, 1) := by decide +kernel
theorem d_M_plainLength_1 : decode c_M_plainLength 1 = .ok (.lookupswitch 61 #[(5, 35), (12, 39), (13, 39)], 35) := by decide +kernel
theorem d_M_plainLength_36 : decode c_M_plainLength 36 = .ok (.ldc2_w 126, 3) := by decide +kernel
theorem d_M_plainLength_39 : decode c_M_plainLength 39 = .ok (.lreturn, 1) := by decide +kernel
theorem d_M_plainLength_40 : decode c_M_plainLength 40 = .ok (.aload_n 0, 1) := by decide +kernel
theorem d_M_plainLength_41 : decode c_M_plainLength 41 = .ok (.getfield 21, 3) := by decide +kernel
theorem d_M_plainLength_44 : decode c_M_plainLength 44 = .ok (.iload_n 1, 1) := by decide +kernel
theorem d_M_plainLength_45 : decode c_M_plainLength 45 = .ok (.bipush 12, 2) := by decide +kernel
theorem d_M_plainLength_47 : decode c_M_plainLength 47 = .ok (.isub, 1) := by decide +kernel
theorem d_M_plainLength_48 : decode c_M_plainLength 48 = .ok (.iaload, 1) := by decide +kernel
theorem d_M_plainLength_49 : decode c_M_plainLength 49 = .ok (.i2l, 1) := by decide +kernel
theorem d_M_plainLength_50 : decode c_M_plainLength 50 = .ok (.aload_n 0, 1) := by decide +kernel
theorem d_M_plainLength_51 : decode c_M_plainLength 51 = .ok (.getfield 24, 3) := by decide +kernel
theorem d_M_plainLength_54 : decode c_M_plainLength 54 = .ok (.iload_n 1, 1) := by decide +kernel
theorem d_M_plainLength_55 : decode c_M_plainLength 55 = .ok (.bipush 12, 2) := by decide +kernel
theorem d_M_plainLength_57 : decode c_M_plainLength 57 = .ok (.isub, 1) := by decide +kernel
theorem d_M_plainLength_58 : decode c_M_plainLength 58 = .ok (.iaload, 1) := by decide +kernel
theorem d_M_plainLength_59 : decode c_M_plainLength 59 = .ok (.i2l, 1) := by decide +kernel
theorem d_M_plainLength_60 : decode c_M_plainLength 60 = .ok (.lmul, 1) := by decide +kernel
theorem d_M_plainLength_61 : decode c_M_plainLength 61 = .ok (.lreturn, 1) := by decide +kernel
theorem d_M_plainLength_62 : decode c_M_plainLength 62 = .ok (.ldc2_w 128, 3) := by decide +kernel
theorem d_M_plainLength_65 : decode c_M_plainLength 65 = .ok (.lreturn, 1) := by decide +kernel
theorem d_M_plainStart_0 : decode c_M_plainStart 0 = .ok (.lload_n 2, 1) := by decide +kernel
theorem d_M_plainStart_1 : decode c_M_plainStart 1 = .ok (.lconst 1, 1) := by decide +kernel
theorem d_M_plainStart_2 : decode c_M_plainStart 2 = .ok (.lsub, 1) := by decide +kernel
theorem d_M_plainStart_3 : decode c_M_plainStart 3 = .ok (.aload_n 0, 1) := by decide +kernel
theorem d_M_plainStart_4 : decode c_M_plainStart 4 = .ok (.getfield 7, 3) := by decide +kernel
theorem d_M_plainStart_7 : decode c_M_plainStart 7 = .ok (.iload_n 1, 1) := by decide +kernel
theorem d_M_plainStart_8 : decode c_M_plainStart 8 = .ok (.iaload, 1) := by decide +kernel
theorem d_M_plainStart_9 : decode c_M_plainStart 9 = .ok (.i2l, 1) := by decide +kernel
theorem d_M_plainStart_10 : decode c_M_plainStart 10 = .ok (.invokestatic 55, 3) := by decide +kernel
theorem d_M_plainStart_13 : decode c_M_plainStart 13 = .ok (.lstore 4, 2) := by decide +kernel
theorem d_M_plainStart_15 : decode c_M_plainStart 15 = .ok (.aload_n 0, 1) := by decide +kernel
theorem d_M_plainStart_16 : decode c_M_plainStart 16 = .ok (.iload_n 1, 1) := by decide +kernel
theorem d_M_plainStart_17 : decode c_M_plainStart 17 = .ok (.invokevirtual 169, 3) := by decide +kernel
theorem d_M_plainStart_20 : decode c_M_plainStart 20 = .ok (.i2l, 1) := by decide +kernel
theorem d_M_plainStart_21 : decode c_M_plainStart 21 = .ok (.lload 4, 2) := by decide +kernel
theorem d_M_plainStart_23 : decode c_M_plainStart 23 = .ok (.aload_n 0, 1) := by decide +kernel
theorem d_M_plainStart_24 : decode c_M_plainStart 24 = .ok (.getfield 13, 3) := by decide +kernel
theorem d_M_plainStart_27 : decode c_M_plainStart 27 = .ok (.iload_n 1, 1) := by decide +kernel
theorem d_M_plainStart_28 : decode c_M_plainStart 28 = .ok (.laload, 1) := by decide +kernel
theorem d_M_plainStart_29 : decode c_M_plainStart 29 = .ok (.lmul, 1) := by decide +kernel
theorem d_M_plainStart_30 : decode c_M_plainStart 30 = .ok (.ladd, 1) := by decide +kernel
theorem d_M_plainStart_31 : decode c_M_plainStart 31 = .ok (.lstore 6, 2) := by decide +kernel
theorem d_M_plainStart_33 : decode c_M_plainStart 33 = .ok (.lload 4, 2) := by decide +kernel
theorem d_M_plainStart_35 : decode c_M_plainStart 35 = .ok (.aload_n 0, 1) := by decide +kernel
theorem d_M_plainStart_36 : decode c_M_plainStart 36 = .ok (.getfield 7, 3) := by decide +kernel
theorem d_M_plainStart_39 : decode c_M_plainStart 39 = .ok (.iload_n 1, 1) := by decide +kernel
theorem d_M_plainStart_40 : decode c_M_plainStart 40 = .ok (.iaload, 1) := by decide +kernel
theorem d_M_plainStart_41 : decode c_M_plainStart 41 = .ok (.i2l, 1) := by decide +kernel
theorem d_M_plainStart_42 : decode c_M_plainStart 42 = .ok (.lmul, 1) := by decide +kernel
theorem d_M_plainStart_43 : decode c_M_plainStart 43 = .ok (.lconst 1, 1) := by decide +kernel
theorem d_M_plainStart_44 : decode c_M_plainStart 44 = .ok (.ladd, 1) := by decide +kernel
theorem d_M_plainStart_45 : decode c_M_plainStart 45 = .ok (.lstore 8, 2) := by decide +kernel
theorem d_M_plainStart_47 : decode c_M_plainStart 47 = .ok (.lload 8, 2) := by decide +kernel
theorem d_M_plainStart_49 : decode c_M_plainStart 49 = .ok (.lload_n 2, 1) := by decide +kernel
theorem d_M_plainStart_50 : decode c_M_plainStart 50 = .ok (.lcmp, 1) := by decide +kernel
theorem d_M_plainStart_51 : decode c_M_plainStart 51 = .ok (.ifCond .ge 38, 3) := by decide +kernel
theorem d_M_plainStart_54 : decode c_M_plainStart 54 = .ok (.lload 6, 2) := by decide +kernel
theorem d_M_plainStart_56 : decode c_M_plainStart 56 = .ok (.aload_n 0, 1) := by decide +kernel
theorem d_M_plainStart_57 : decode c_M_plainStart 57 = .ok (.iload_n 1, 1) := by decide +kernel
theorem d_M_plainStart_58 : decode c_M_plainStart 58 = .ok (.invokevirtual 130, 3) := by decide +kernel
theorem d_M_plainStart_61 : decode c_M_plainStart 61 = .ok (.ladd, 1) := by decide +kernel
theorem d_M_plainStart_62 : decode c_M_plainStart 62 = .ok (.aload_n 0, 1) := by decide +kernel
theorem d_M_plainStart_63 : decode c_M_plainStart 63 = .ok (.iload_n 1, 1) := by decide +kernel
theorem d_M_plainStart_64 : decode c_M_plainStart 64 = .ok (.lload 8, 2) := by decide +kernel
theorem d_M_plainStart_66 : decode c_M_plainStart 66 = .ok (.invokevirtual 102, 3) := by decide +kernel
theorem d_M_plainStart_69 : decode c_M_plainStart 69 = .ok (.ifCond .eq 7, 3) := by decide +kernel
theorem d_M_plainStart_72 : decode c_M_plainStart 72 = .ok (.lconst 1, 1) := by decide +kernel
theorem d_M_plainStart_73 : decode c_M_plainStart 73 = .ok (.goto 4, 3) := by decide +kernel
theorem d_M_plainStart_76 : decode c_M_plainStart 76 = .ok (.lconst 0, 1) := by decide +kernel
theorem d_M_plainStart_77 : decode c_M_plainStart 77 = .ok (.ladd, 1) := by decide +kernel
theorem d_M_plainStart_78 : decode c_M_plainStart 78 = .ok (.lstore 6, 2) := by decide +kernel
theorem d_M_plainStart_80 : decode c_M_plainStart 80 = .ok (.lload 8, 2) := by decide +kernel
theorem d_M_plainStart_82 : decode c_M_plainStart 82 = .ok (.lconst 1, 1) := by decide +kernel
theorem d_M_plainStart_83 : decode c_M_plainStart 83 = .ok (.ladd, 1) := by decide +kernel
theorem d_M_plainStart_84 : decode c_M_plainStart 84 = .ok (.lstore 8, 2) := by decide +kernel
theorem d_M_plainStart_86 : decode c_M_plainStart 86 = .ok (.goto (-39), 3) := by decide +kernel
theorem d_M_plainStart_89 : decode c_M_plainStart 89 = .ok (.lload 6, 2) := by decide +kernel
theorem d_M_plainStart_91 : decode c_M_plainStart 91 = .ok (.lreturn, 1) := by decide +kernel
theorem d_M_plug_0 : decode c_M_plug 0 = .ok (.aload_n 0, 1) := by decide +kernel
theorem d_M_plug_1 : decode c_M_plug 1 = .ok (.iconst 0, 1) := by decide +kernel
theorem d_M_plug_2 : decode c_M_plug 2 = .ok (.putfield 52, 3) := by decide +kernel
theorem d_M_plug_5 : decode c_M_plug 5 = .ok (.iload_n 1, 1) := by decide +kernel
theorem d_M_plug_6 : decode c_M_plug 6 = .ok (.ifCond .lt 8, 3) := by decide +kernel
theorem d_M_plug_9 : decode c_M_plug 9 = .ok (.iload_n 1, 1) := by decide +kernel
theorem d_M_plug_10 : decode c_M_plug 10 = .ok (.iconst 1, 1) := by decide +kernel
theorem d_M_plug_11 : decode c_M_plug 11 = .ok (.if_icmp .le 10, 3) := by decide +kernel
theorem d_M_plug_14 : decode c_M_plug 14 = .ok (.aload_n 0, 1) := by decide +kernel
theorem d_M_plug_15 : decode c_M_plug 15 = .ok (.iconst 1, 1) := by decide +kernel
theorem d_M_plug_16 : decode c_M_plug 16 = .ok (.putfield 52, 3) := by decide +kernel
theorem d_M_plug_19 : decode c_M_plug 19 = .ok (.iconst 0, 1) := by decide +kernel
theorem d_M_plug_20 : decode c_M_plug 20 = .ok (.ireturn, 1) := by decide +kernel
theorem d_M_plug_21 : decode c_M_plug 21 = .ok (.iload_n 2, 1) := by decide +kernel
theorem d_M_plug_22 : decode c_M_plug 22 = .ok (.iconst 1, 1) := by decide +kernel
theorem d_M_plug_23 : decode c_M_plug 23 = .ok (.if_icmp .lt 74, 3) := by decide +kernel
theorem d_M_plug_26 : decode c_M_plug 26 = .ok (.iload_n 2, 1) := by decide +kernel
theorem d_M_plug_27 : decode c_M_plug 27 = .ok (.bipush 20, 2) := by decide +kernel
theorem d_M_plug_29 : decode c_M_plug 29 = .ok (.if_icmp .gt 68, 3) := by decide +kernel
theorem d_M_plug_32 : decode c_M_plug 32 = .ok (.iload_n 3, 1) := by decide +kernel
theorem d_M_plug_33 : decode c_M_plug 33 = .ok (.iconst 1, 1) := by decide +kernel
theorem d_M_plug_34 : decode c_M_plug 34 = .ok (.if_icmp .lt 63, 3) := by decide +kernel
theorem d_M_plug_37 : decode c_M_plug 37 = .ok (.iload_n 3, 1) := by decide +kernel
theorem d_M_plug_38 : decode c_M_plug 38 = .ok (.bipush 40, 2) := by decide +kernel
theorem d_M_plug_40 : decode c_M_plug 40 = .ok (.if_icmp .gt 57, 3) := by decide +kernel
theorem d_M_plug_43 : decode c_M_plug 43 = .ok (.iload 4, 2) := by decide +kernel
theorem d_M_plug_45 : decode c_M_plug 45 = .ok (.ldc_w 267, 3) := by decide +kernel
theorem d_M_plug_48 : decode c_M_plug 48 = .ok (.if_icmp .lt 49, 3) := by decide +kernel
theorem d_M_plug_51 : decode c_M_plug 51 = .ok (.iload 4, 2) := by decide +kernel
theorem d_M_plug_53 : decode c_M_plug 53 = .ok (.ldc_w 268, 3) := by decide +kernel
theorem d_M_plug_56 : decode c_M_plug 56 = .ok (.if_icmp .gt 41, 3) := by decide +kernel
theorem d_M_plug_59 : decode c_M_plug 59 = .ok (.iload 7, 2) := by decide +kernel
theorem d_M_plug_61 : decode c_M_plug 61 = .ok (.iconst 1, 1) := by decide +kernel
theorem d_M_plug_62 : decode c_M_plug 62 = .ok (.if_icmp .lt 35, 3) := by decide +kernel
theorem d_M_plug_65 : decode c_M_plug 65 = .ok (.iload 7, 2) := by decide +kernel
theorem d_M_plug_67 : decode c_M_plug 67 = .ok (.sipush 1000, 3) := by decide +kernel
theorem d_M_plug_70 : decode c_M_plug 70 = .ok (.if_icmp .gt 27, 3) := by decide +kernel
theorem d_M_plug_73 : decode c_M_plug 73 = .ok (.iload 5, 2) := by decide +kernel
theorem d_M_plug_75 : decode c_M_plug 75 = .ok (.ifCond .lt 22, 3) := by decide +kernel
theorem d_M_plug_78 : decode c_M_plug 78 = .ok (.iload 5, 2) := by decide +kernel
theorem d_M_plug_80 : decode c_M_plug 80 = .ok (.iload 7, 2) := by decide +kernel
theorem d_M_plug_82 : decode c_M_plug 82 = .ok (.if_icmp .gt 15, 3) := by decide +kernel
theorem d_M_plug_85 : decode c_M_plug 85 = .ok (.iload 6, 2) := by decide +kernel
theorem d_M_plug_87 : decode c_M_plug 87 = .ok (.ifCond .lt 10, 3) := by decide +kernel
theorem d_M_plug_90 : decode c_M_plug 90 = .ok (.iload 6, 2) := by decide +kernel
theorem d_M_plug_92 : decode c_M_plug 92 = .ok (.iload 7, 2) := by decide +kernel
theorem d_M_plug_94 : decode c_M_plug 94 = .ok (.if_icmp .lt 10, 3) := by decide +kernel
theorem d_M_plug_97 : decode c_M_plug 97 = .ok (.aload_n 0, 1) := by decide +kernel
theorem d_M_plug_98 : decode c_M_plug 98 = .ok (.iconst 2, 1) := by decide +kernel
theorem d_M_plug_99 : decode c_M_plug 99 = .ok (.putfield 52, 3) := by decide +kernel
theorem d_M_plug_102 : decode c_M_plug 102 = .ok (.iconst 0, 1) := by decide +kernel
theorem d_M_plug_103 : decode c_M_plug 103 = .ok (.ireturn, 1) := by decide +kernel
theorem d_M_plug_104 : decode c_M_plug 104 = .ok (.aload_n 0, 1) := by decide +kernel
theorem d_M_plug_105 : decode c_M_plug 105 = .ok (.getfield 17, 3) := by decide +kernel
theorem d_M_plug_108 : decode c_M_plug 108 = .ok (.iload_n 1, 1) := by decide +kernel
theorem d_M_plug_109 : decode c_M_plug 109 = .ok (.baload, 1) := by decide +kernel
theorem d_M_plug_110 : decode c_M_plug 110 = .ok (.istore 8, 2) := by decide +kernel
theorem d_M_plug_112 : decode c_M_plug 112 = .ok (.aload_n 0, 1) := by decide +kernel
theorem d_M_plug_113 : decode c_M_plug 113 = .ok (.getfield 17, 3) := by decide +kernel
theorem d_M_plug_116 : decode c_M_plug 116 = .ok (.iload_n 1, 1) := by decide +kernel
theorem d_M_plug_117 : decode c_M_plug 117 = .ok (.iconst 1, 1) := by decide +kernel
theorem d_M_plug_118 : decode c_M_plug 118 = .ok (.bastore, 1) := by decide +kernel
theorem d_M_plug_119 : decode c_M_plug 119 = .ok (.aload_n 0, 1) := by decide +kernel
theorem d_M_plug_120 : decode c_M_plug 120 = .ok (.getfield 21, 3) := by decide +kernel
theorem d_M_plug_123 : decode c_M_plug 123 = .ok (.iload_n 1, 1) := by decide +kernel
theorem d_M_plug_124 : decode c_M_plug 124 = .ok (.iload_n 2, 1) := by decide +kernel
theorem d_M_plug_125 : decode c_M_plug 125 = .ok (.iastore, 1) := by decide +kernel
theorem d_M_plug_126 : decode c_M_plug 126 = .ok (.aload_n 0, 1) := by decide +kernel
theorem d_M_plug_127 : decode c_M_plug 127 = .ok (.getfield 24, 3) := by decide +kernel
theorem d_M_plug_130 : decode c_M_plug 130 = .ok (.iload_n 1, 1) := by decide +kernel
theorem d_M_plug_131 : decode c_M_plug 131 = .ok (.iload_n 3, 1) := by decide +kernel
theorem d_M_plug_132 : decode c_M_plug 132 = .ok (.iastore, 1) := by decide +kernel
theorem d_M_plug_133 : decode c_M_plug 133 = .ok (.aload_n 0, 1) := by decide +kernel
theorem d_M_plug_134 : decode c_M_plug 134 = .ok (.getfield 27, 3) := by decide +kernel
theorem d_M_plug_137 : decode c_M_plug 137 = .ok (.iload_n 1, 1) := by decide +kernel
theorem d_M_plug_138 : decode c_M_plug 138 = .ok (.iload 4, 2) := by decide +kernel
theorem d_M_plug_140 : decode c_M_plug 140 = .ok (.iastore, 1) := by decide +kernel
theorem d_M_plug_141 : decode c_M_plug 141 = .ok (.aload_n 0, 1) := by decide +kernel
theorem d_M_plug_142 : decode c_M_plug 142 = .ok (.getfield 30, 3) := by decide +kernel
theorem d_M_plug_145 : decode c_M_plug 145 = .ok (.iload_n 1, 1) := by decide +kernel
theorem d_M_plug_146 : decode c_M_plug 146 = .ok (.iload 5, 2) := by decide +kernel
theorem d_M_plug_148 : decode c_M_plug 148 = .ok (.iastore, 1) := by decide +kernel
theorem d_M_plug_149 : decode c_M_plug 149 = .ok (.aload_n 0, 1) := by decide +kernel
theorem d_M_plug_150 : decode c_M_plug 150 = .ok (.getfield 33, 3) := by decide +kernel
theorem d_M_plug_153 : decode c_M_plug 153 = .ok (.iload_n 1, 1) := by decide +kernel
theorem d_M_plug_154 : decode c_M_plug 154 = .ok (.iload 6, 2) := by decide +kernel
theorem d_M_plug_156 : decode c_M_plug 156 = .ok (.iastore, 1) := by decide +kernel
theorem d_M_plug_157 : decode c_M_plug 157 = .ok (.aload_n 0, 1) := by decide +kernel
theorem d_M_plug_158 : decode c_M_plug 158 = .ok (.getfield 36, 3) := by decide +kernel
theorem d_M_plug_161 : decode c_M_plug 161 = .ok (.iload_n 1, 1) := by decide +kernel
theorem d_M_plug_162 : decode c_M_plug 162 = .ok (.iload 7, 2) := by decide +kernel
theorem d_M_plug_164 : decode c_M_plug 164 = .ok (.iastore, 1) := by decide +kernel
theorem d_M_plug_165 : decode c_M_plug 165 = .ok (.aload_n 0, 1) := by decide +kernel
theorem d_M_plug_166 : decode c_M_plug 166 = .ok (.getfield 7, 3) := by decide +kernel
theorem d_M_plug_169 : decode c_M_plug 169 = .ok (.bipush 12, 2) := by decide +kernel
theorem d_M_plug_171 : decode c_M_plug 171 = .ok (.iload_n 1, 1) := by decide +kernel
theorem d_M_plug_172 : decode c_M_plug 172 = .ok (.iadd, 1) := by decide +kernel
theorem d_M_plug_173 : decode c_M_plug 173 = .ok (.iload 7, 2) := by decide +kernel
theorem d_M_plug_175 : decode c_M_plug 175 = .ok (.iastore, 1) := by decide +kernel
theorem d_M_plug_176 : decode c_M_plug 176 = .ok (.aload_n 0, 1) := by decide +kernel
theorem d_M_plug_177 : decode c_M_plug 177 = .ok (.bipush 12, 2) := by decide +kernel
theorem d_M_plug_179 : decode c_M_plug 179 = .ok (.iload_n 1, 1) := by decide +kernel
theorem d_M_plug_180 : decode c_M_plug 180 = .ok (.iadd, 1) := by decide +kernel
theorem d_M_plug_181 : decode c_M_plug 181 = .ok (.invokevirtual 48, 3) := by decide +kernel
theorem d_M_plug_184 : decode c_M_plug 184 = .ok (.aload_n 0, 1) := by decide +kernel
theorem d_M_plug_185 : decode c_M_plug 185 = .ok (.ldc 39, 2) := by decide +kernel
theorem d_M_plug_187 : decode c_M_plug 187 = .ok (.putfield 40, 3) := by decide +kernel
theorem d_M_plug_190 : decode c_M_plug 190 = .ok (.iload 8, 2) := by decide +kernel
theorem d_M_plug_192 : decode c_M_plug 192 = .ok (.ireturn, 1) := by decide +kernel
theorem d_M_putNumber_0 : decode c_M_putNumber 0 = .ok (.lload_n 1, 1) := by decide +kernel
theorem d_M_putNumber_1 : decode c_M_putNumber 1 = .ok (.lconst 0, 1) := by decide +kernel
theorem d_M_putNumber_2 : decode c_M_putNumber 2 = .ok (.lcmp, 1) := by decide +kernel
theorem d_M_putNumber_3 : decode c_M_putNumber 3 = .ok (.ifCond .ge 8, 3) := by decide +kernel
theorem d_M_putNumber_6 : decode c_M_putNumber 6 = .ok (.lload_n 1, 1) := by decide +kernel
theorem d_M_putNumber_7 : decode c_M_putNumber 7 = .ok (.lneg, 1) := by decide +kernel
theorem d_M_putNumber_8 : decode c_M_putNumber 8 = .ok (.goto 4, 3) := by decide +kernel
theorem d_M_putNumber_11 : decode c_M_putNumber 11 = .ok (.lload_n 1, 1) := by decide +kernel
theorem d_M_putNumber_12 : decode c_M_putNumber 12 = .ok (.lstore_n 3, 1) := by decide +kernel
theorem d_M_putNumber_13 : decode c_M_putNumber 13 = .ok (.lload_n 1, 1) := by decide +kernel
theorem d_M_putNumber_14 : decode c_M_putNumber 14 = .ok (.lconst 0, 1) := by decide +kernel
theorem d_M_putNumber_15 : decode c_M_putNumber 15 = .ok (.lcmp, 1) := by decide +kernel
theorem d_M_putNumber_16 : decode c_M_putNumber 16 = .ok (.ifCond .ge 24, 3) := by decide +kernel
theorem d_M_putNumber_19 : decode c_M_putNumber 19 = .ok (.aload_n 0, 1) := by decide +kernel
theorem d_M_putNumber_20 : decode c_M_putNumber 20 = .ok (.getfield 44, 3) := by decide +kernel
theorem d_M_putNumber_23 : decode c_M_putNumber 23 = .ok (.aload_n 0, 1) := by decide +kernel
theorem d_M_putNumber_24 : decode c_M_putNumber 24 = .ok (.getfield 305, 3) := by decide +kernel
theorem d_M_putNumber_27 : decode c_M_putNumber 27 = .ok (.bipush 45, 2) := by decide +kernel
theorem d_M_putNumber_29 : decode c_M_putNumber 29 = .ok (.castore, 1) := by decide +kernel
theorem d_M_putNumber_30 : decode c_M_putNumber 30 = .ok (.aload_n 0, 1) := by decide +kernel
theorem d_M_putNumber_31 : decode c_M_putNumber 31 = .ok (.dup, 1) := by decide +kernel
theorem d_M_putNumber_32 : decode c_M_putNumber 32 = .ok (.getfield 305, 3) := by decide +kernel
theorem d_M_putNumber_35 : decode c_M_putNumber 35 = .ok (.iconst 1, 1) := by decide +kernel
theorem d_M_putNumber_36 : decode c_M_putNumber 36 = .ok (.iadd, 1) := by decide +kernel
theorem d_M_putNumber_37 : decode c_M_putNumber 37 = .ok (.putfield 305, 3) := by decide +kernel
theorem d_M_putNumber_40 : decode c_M_putNumber 40 = .ok (.lconst 1, 1) := by decide +kernel
theorem d_M_putNumber_41 : decode c_M_putNumber 41 = .ok (.lstore 5, 2) := by decide +kernel
theorem d_M_putNumber_43 : decode c_M_putNumber 43 = .ok (.lload_n 3, 1) := by decide +kernel
theorem d_M_putNumber_44 : decode c_M_putNumber 44 = .ok (.lload 5, 2) := by decide +kernel
theorem d_M_putNumber_46 : decode c_M_putNumber 46 = .ok (.ldiv, 1) := by decide +kernel
theorem d_M_putNumber_47 : decode c_M_putNumber 47 = .ok (.ldc2_w 308, 3) := by decide +kernel
theorem d_M_putNumber_50 : decode c_M_putNumber 50 = .ok (.lcmp, 1) := by decide +kernel
theorem d_M_putNumber_51 : decode c_M_putNumber 51 = .ok (.ifCond .le 14, 3) := by decide +kernel
theorem d_M_putNumber_54 : decode c_M_putNumber 54 = .ok (.ldc2_w 303, 3) := by decide +kernel
theorem d_M_putNumber_57 : decode c_M_putNumber 57 = .ok (.lload 5, 2) := by decide +kernel
theorem d_M_putNumber_59 : decode c_M_putNumber 59 = .ok (.lmul, 1) := by decide +kernel
theorem d_M_putNumber_60 : decode c_M_putNumber 60 = .ok (.lstore 5, 2) := by decide +kernel
theorem d_M_putNumber_62 : decode c_M_putNumber 62 = .ok (.goto (-19), 3) := by decide +kernel
theorem d_M_putNumber_65 : decode c_M_putNumber 65 = .ok (.lload 5, 2) := by decide +kernel
theorem d_M_putNumber_67 : decode c_M_putNumber 67 = .ok (.lconst 0, 1) := by decide +kernel
theorem d_M_putNumber_68 : decode c_M_putNumber 68 = .ok (.lcmp, 1) := by decide +kernel
theorem d_M_putNumber_69 : decode c_M_putNumber 69 = .ok (.ifCond .le 47, 3) := by decide +kernel
theorem d_M_putNumber_72 : decode c_M_putNumber 72 = .ok (.aload_n 0, 1) := by decide +kernel
theorem d_M_putNumber_73 : decode c_M_putNumber 73 = .ok (.getfield 44, 3) := by decide +kernel
theorem d_M_putNumber_76 : decode c_M_putNumber 76 = .ok (.aload_n 0, 1) := by decide +kernel
theorem d_M_putNumber_77 : decode c_M_putNumber 77 = .ok (.getfield 305, 3) := by decide +kernel
theorem d_M_putNumber_80 : decode c_M_putNumber 80 = .ok (.ldc2_w 310, 3) := by decide +kernel
theorem d_M_putNumber_83 : decode c_M_putNumber 83 = .ok (.lload_n 3, 1) := by decide +kernel
theorem d_M_putNumber_84 : decode c_M_putNumber 84 = .ok (.lload 5, 2) := by decide +kernel
theorem d_M_putNumber_86 : decode c_M_putNumber 86 = .ok (.ldiv, 1) := by decide +kernel
theorem d_M_putNumber_87 : decode c_M_putNumber 87 = .ok (.ldc2_w 303, 3) := by decide +kernel
theorem d_M_putNumber_90 : decode c_M_putNumber 90 = .ok (.lrem, 1) := by decide +kernel
theorem d_M_putNumber_91 : decode c_M_putNumber 91 = .ok (.ladd, 1) := by decide +kernel
theorem d_M_putNumber_92 : decode c_M_putNumber 92 = .ok (.l2i, 1) := by decide +kernel
theorem d_M_putNumber_93 : decode c_M_putNumber 93 = .ok (.i2c, 1) := by decide +kernel
theorem d_M_putNumber_94 : decode c_M_putNumber 94 = .ok (.castore, 1) := by decide +kernel
theorem d_M_putNumber_95 : decode c_M_putNumber 95 = .ok (.aload_n 0, 1) := by decide +kernel
theorem d_M_putNumber_96 : decode c_M_putNumber 96 = .ok (.dup, 1) := by decide +kernel
theorem d_M_putNumber_97 : decode c_M_putNumber 97 = .ok (.getfield 305, 3) := by decide +kernel
theorem d_M_putNumber_100 : decode c_M_putNumber 100 = .ok (.iconst 1, 1) := by decide +kernel
theorem d_M_putNumber_101 : decode c_M_putNumber 101 = .ok (.iadd, 1) := by decide +kernel
theorem d_M_putNumber_102 : decode c_M_putNumber 102 = .ok (.putfield 305, 3) := by decide +kernel
theorem d_M_putNumber_105 : decode c_M_putNumber 105 = .ok (.lload 5, 2) := by decide +kernel
theorem d_M_putNumber_107 : decode c_M_putNumber 107 = .ok (.ldc2_w 303, 3) := by decide +kernel
theorem d_M_putNumber_110 : decode c_M_putNumber 110 = .ok (.ldiv, 1) := by decide +kernel
theorem d_M_putNumber_111 : decode c_M_putNumber 111 = .ok (.lstore 5, 2) := by decide +kernel
theorem d_M_putNumber_113 : decode c_M_putNumber 113 = .ok (.goto (-48), 3) := by decide +kernel
theorem d_M_putNumber_116 : decode c_M_putNumber 116 = .ok (.return_, 1) := by decide +kernel
theorem d_M_read_0 : decode c_M_read 0 = .ok (.aload_n 0, 1) := by decide +kernel
theorem d_M_read_1 : decode c_M_read 1 = .ok (.aload_n 0, 1) := by decide +kernel
theorem d_M_read_2 : decode c_M_read 2 = .ok (.iload_n 1, 1) := by decide +kernel
theorem d_M_read_3 : decode c_M_read 3 = .ok (.invokevirtual 269, 3) := by decide +kernel
theorem d_M_read_6 : decode c_M_read 6 = .ok (.ifCond .eq 7, 3) := by decide +kernel
theorem d_M_read_9 : decode c_M_read 9 = .ok (.iconst 0, 1) := by decide +kernel
theorem d_M_read_10 : decode c_M_read 10 = .ok (.goto 4, 3) := by decide +kernel
theorem d_M_read_13 : decode c_M_read 13 = .ok (.iconst 1, 1) := by decide +kernel
theorem d_M_read_14 : decode c_M_read 14 = .ok (.putfield 52, 3) := by decide +kernel
theorem d_M_read_17 : decode c_M_read 17 = .ok (.aload_n 0, 1) := by decide +kernel
theorem d_M_read_18 : decode c_M_read 18 = .ok (.getfield 52, 3) := by decide +kernel
theorem d_M_read_21 : decode c_M_read 21 = .ok (.ifCond .le 5, 3) := by decide +kernel
theorem d_M_read_24 : decode c_M_read 24 = .ok (.iconst 0, 1) := by decide +kernel
theorem d_M_read_25 : decode c_M_read 25 = .ok (.ireturn, 1) := by decide +kernel
theorem d_M_read_26 : decode c_M_read 26 = .ok (.aload_n 0, 1) := by decide +kernel
theorem d_M_read_27 : decode c_M_read 27 = .ok (.iconst 0, 1) := by decide +kernel
theorem d_M_read_28 : decode c_M_read 28 = .ok (.invokevirtual 315, 3) := by decide +kernel
theorem d_M_read_31 : decode c_M_read 31 = .ok (.istore_n 2, 1) := by decide +kernel
theorem d_M_read_32 : decode c_M_read 32 = .ok (.aload_n 0, 1) := by decide +kernel
theorem d_M_read_33 : decode c_M_read 33 = .ok (.iload_n 2, 1) := by decide +kernel
theorem d_M_read_34 : decode c_M_read 34 = .ok (.iconst 1, 1) := by decide +kernel
theorem d_M_read_35 : decode c_M_read 35 = .ok (.iadd, 1) := by decide +kernel
theorem d_M_read_36 : decode c_M_read 36 = .ok (.invokevirtual 315, 3) := by decide +kernel
theorem d_M_read_39 : decode c_M_read 39 = .ok (.istore_n 3, 1) := by decide +kernel
theorem d_M_read_40 : decode c_M_read 40 = .ok (.aload_n 0, 1) := by decide +kernel
theorem d_M_read_41 : decode c_M_read 41 = .ok (.iconst 0, 1) := by decide +kernel
theorem d_M_read_42 : decode c_M_read 42 = .ok (.iload_n 2, 1) := by decide +kernel
theorem d_M_read_43 : decode c_M_read 43 = .ok (.invokevirtual 318, 3) := by decide +kernel
theorem d_M_read_46 : decode c_M_read 46 = .ok (.istore 4, 2) := by decide +kernel
theorem d_M_read_48 : decode c_M_read 48 = .ok (.iload_n 2, 1) := by decide +kernel
theorem d_M_read_49 : decode c_M_read 49 = .ok (.aload_n 0, 1) := by decide +kernel
theorem d_M_read_50 : decode c_M_read 50 = .ok (.getfield 305, 3) := by decide +kernel
theorem d_M_read_53 : decode c_M_read 53 = .ok (.if_icmp .ge 14, 3) := by decide +kernel
theorem d_M_read_56 : decode c_M_read 56 = .ok (.aload_n 0, 1) := by decide +kernel
theorem d_M_read_57 : decode c_M_read 57 = .ok (.iload_n 2, 1) := by decide +kernel
theorem d_M_read_58 : decode c_M_read 58 = .ok (.iconst 1, 1) := by decide +kernel
theorem d_M_read_59 : decode c_M_read 59 = .ok (.iadd, 1) := by decide +kernel
theorem d_M_read_60 : decode c_M_read 60 = .ok (.iload_n 3, 1) := by decide +kernel
theorem d_M_read_61 : decode c_M_read 61 = .ok (.invokevirtual 318, 3) := by decide +kernel
theorem d_M_read_64 : decode c_M_read 64 = .ok (.goto 5, 3) := by decide +kernel
theorem d_M_read_67 : decode c_M_read 67 = .ok (.ldc 39, 2) := by decide +kernel
theorem d_M_read_69 : decode c_M_read 69 = .ok (.istore 5, 2) := by decide +kernel
theorem d_M_read_71 : decode c_M_read 71 = .ok (.iload_n 3, 1) := by decide +kernel
theorem d_M_read_72 : decode c_M_read 72 = .ok (.aload_n 0, 1) := by decide +kernel
theorem d_M_read_73 : decode c_M_read 73 = .ok (.getfield 305, 3) := by decide +kernel
theorem d_M_read_76 : decode c_M_read 76 = .ok (.if_icmp .ge 17, 3) := by decide +kernel
theorem d_M_read_79 : decode c_M_read 79 = .ok (.aload_n 0, 1) := by decide +kernel
theorem d_M_read_80 : decode c_M_read 80 = .ok (.iload_n 3, 1) := by decide +kernel
theorem d_M_read_81 : decode c_M_read 81 = .ok (.iconst 1, 1) := by decide +kernel
theorem d_M_read_82 : decode c_M_read 82 = .ok (.iadd, 1) := by decide +kernel
theorem d_M_read_83 : decode c_M_read 83 = .ok (.aload_n 0, 1) := by decide +kernel
theorem d_M_read_84 : decode c_M_read 84 = .ok (.getfield 305, 3) := by decide +kernel
theorem d_M_read_87 : decode c_M_read 87 = .ok (.invokevirtual 318, 3) := by decide +kernel
theorem d_M_read_90 : decode c_M_read 90 = .ok (.goto 5, 3) := by decide +kernel
theorem d_M_read_93 : decode c_M_read 93 = .ok (.ldc 39, 2) := by decide +kernel
theorem d_M_read_95 : decode c_M_read 95 = .ok (.istore 6, 2) := by decide +kernel
theorem d_M_read_97 : decode c_M_read 97 = .ok (.iload 4, 2) := by decide +kernel
theorem d_M_read_99 : decode c_M_read 99 = .ok (.ldc 39, 2) := by decide +kernel
theorem d_M_read_101 : decode c_M_read 101 = .ok (.if_icmp .eq 29, 3) := by decide +kernel
theorem d_M_read_104 : decode c_M_read 104 = .ok (.iload 5, 2) := by decide +kernel
theorem d_M_read_106 : decode c_M_read 106 = .ok (.ldc 39, 2) := by decide +kernel
theorem d_M_read_108 : decode c_M_read 108 = .ok (.if_icmp .eq 22, 3) := by decide +kernel
theorem d_M_read_111 : decode c_M_read 111 = .ok (.iload 6, 2) := by decide +kernel
theorem d_M_read_113 : decode c_M_read 113 = .ok (.ldc 39, 2) := by decide +kernel
theorem d_M_read_115 : decode c_M_read 115 = .ok (.if_icmp .eq 15, 3) := by decide +kernel
theorem d_M_read_118 : decode c_M_read 118 = .ok (.iload 4, 2) := by decide +kernel
theorem d_M_read_120 : decode c_M_read 120 = .ok (.invokestatic 277, 3) := by decide +kernel
theorem d_M_read_123 : decode c_M_read 123 = .ok (.ifCond .eq 7, 3) := by decide +kernel
theorem d_M_read_126 : decode c_M_read 126 = .ok (.iconst 1, 1) := by decide +kernel
theorem d_M_read_127 : decode c_M_read 127 = .ok (.goto 4, 3) := by decide +kernel
theorem d_M_read_130 : decode c_M_read 130 = .ok (.iconst 0, 1) := by decide +kernel
theorem d_M_read_131 : decode c_M_read 131 = .ok (.istore 7, 2) := by decide +kernel
theorem d_M_read_133 : decode c_M_read 133 = .ok (.iload 7, 2) := by decide +kernel
theorem d_M_read_135 : decode c_M_read 135 = .ok (.ifCond .eq 17, 3) := by decide +kernel
theorem d_M_read_138 : decode c_M_read 138 = .ok (.aload_n 0, 1) := by decide +kernel
theorem d_M_read_139 : decode c_M_read 139 = .ok (.iload_n 1, 1) := by decide +kernel
theorem d_M_read_140 : decode c_M_read 140 = .ok (.iload 4, 2) := by decide +kernel
theorem d_M_read_142 : decode c_M_read 142 = .ok (.iload 5, 2) := by decide +kernel
theorem d_M_read_144 : decode c_M_read 144 = .ok (.iload 6, 2) := by decide +kernel
theorem d_M_read_146 : decode c_M_read 146 = .ok (.invokevirtual 280, 3) := by decide +kernel
theorem d_M_read_149 : decode c_M_read 149 = .ok (.goto 6, 3) := by decide +kernel
theorem d_M_read_152 : decode c_M_read 152 = .ok (.ldc2_w 250, 3) := by decide +kernel
theorem d_M_read_155 : decode c_M_read 155 = .ok (.lstore 8, 2) := by decide +kernel
theorem d_M_read_157 : decode c_M_read 157 = .ok (.aload_n 0, 1) := by decide +kernel
theorem d_M_read_158 : decode c_M_read 158 = .ok (.lload 8, 2) := by decide +kernel
theorem d_M_read_160 : decode c_M_read 160 = .ok (.ldc2_w 250, 3) := by decide +kernel
theorem d_M_read_163 : decode c_M_read 163 = .ok (.lcmp, 1) := by decide +kernel
theorem d_M_read_164 : decode c_M_read 164 = .ok (.ifCond .eq 11, 3) := by decide +kernel
theorem d_M_read_167 : decode c_M_read 167 = .ok (.lload 8, 2) := by decide +kernel
theorem d_M_read_169 : decode c_M_read 169 = .ok (.invokestatic 272, 3) := by decide +kernel
theorem d_M_read_172 : decode c_M_read 172 = .ok (.ifCond .ne 7, 3) := by decide +kernel
theorem d_M_read_175 : decode c_M_read 175 = .ok (.iconst 2, 1) := by decide +kernel
theorem d_M_read_176 : decode c_M_read 176 = .ok (.goto 4, 3) := by decide +kernel
theorem d_M_read_179 : decode c_M_read 179 = .ok (.iconst 0, 1) := by decide +kernel
theorem d_M_read_180 : decode c_M_read 180 = .ok (.putfield 52, 3) := by decide +kernel
theorem d_M_read_183 : decode c_M_read 183 = .ok (.aload_n 0, 1) := by decide +kernel
theorem d_M_read_184 : decode c_M_read 184 = .ok (.getfield 52, 3) := by decide +kernel
theorem d_M_read_187 : decode c_M_read 187 = .ok (.ifCond .le 7, 3) := by decide +kernel
theorem d_M_read_190 : decode c_M_read 190 = .ok (.iconst 0, 1) := by decide +kernel
theorem d_M_read_191 : decode c_M_read 191 = .ok (.goto 6, 3) := by decide +kernel
theorem d_M_read_194 : decode c_M_read 194 = .ok (.lload 8, 2) := by decide +kernel
theorem d_M_read_196 : decode c_M_read 196 = .ok (.l2i, 1) := by decide +kernel
theorem d_M_read_197 : decode c_M_read 197 = .ok (.ireturn, 1) := by decide +kernel
theorem d_M_rounds_0 : decode c_M_rounds 0 = .ok (.aload_n 0, 1) := by decide +kernel
theorem d_M_rounds_1 : decode c_M_rounds 1 = .ok (.iconst 0, 1) := by decide +kernel
theorem d_M_rounds_2 : decode c_M_rounds 2 = .ok (.putfield 52, 3) := by decide +kernel
theorem d_M_rounds_5 : decode c_M_rounds 5 = .ok (.iload_n 1, 1) := by decide +kernel
theorem d_M_rounds_6 : decode c_M_rounds 6 = .ok (.i2l, 1) := by decide +kernel
theorem d_M_rounds_7 : decode c_M_rounds 7 = .ok (.invokestatic 272, 3) := by decide +kernel
theorem d_M_rounds_10 : decode c_M_rounds 10 = .ok (.ifCond .eq 36, 3) := by decide +kernel
theorem d_M_rounds_13 : decode c_M_rounds 13 = .ok (.iload_n 1, 1) := by decide +kernel
theorem d_M_rounds_14 : decode c_M_rounds 14 = .ok (.i2l, 1) := by decide +kernel
theorem d_M_rounds_15 : decode c_M_rounds 15 = .ok (.ldc2_w 284, 3) := by decide +kernel
theorem d_M_rounds_18 : decode c_M_rounds 18 = .ok (.ladd, 1) := by decide +kernel
theorem d_M_rounds_19 : decode c_M_rounds 19 = .ok (.ldc2_w 128, 3) := by decide +kernel
theorem d_M_rounds_22 : decode c_M_rounds 22 = .ok (.invokestatic 65, 3) := by decide +kernel
theorem d_M_rounds_25 : decode c_M_rounds 25 = .ok (.ldc2_w 286, 3) := by decide +kernel
theorem d_M_rounds_28 : decode c_M_rounds 28 = .ok (.iload_n 1, 1) := by decide +kernel
theorem d_M_rounds_29 : decode c_M_rounds 29 = .ok (.i2l, 1) := by decide +kernel
theorem d_M_rounds_30 : decode c_M_rounds 30 = .ok (.ldc2_w 288, 3) := by decide +kernel
theorem d_M_rounds_33 : decode c_M_rounds 33 = .ok (.ladd, 1) := by decide +kernel
theorem d_M_rounds_34 : decode c_M_rounds 34 = .ok (.ldc2_w 290, 3) := by decide +kernel
theorem d_M_rounds_37 : decode c_M_rounds 37 = .ok (.invokestatic 65, 3) := by decide +kernel
theorem d_M_rounds_40 : decode c_M_rounds 40 = .ok (.lmul, 1) := by decide +kernel
theorem d_M_rounds_41 : decode c_M_rounds 41 = .ok (.ladd, 1) := by decide +kernel
theorem d_M_rounds_42 : decode c_M_rounds 42 = .ok (.l2i, 1) := by decide +kernel
theorem d_M_rounds_43 : decode c_M_rounds 43 = .ok (.goto 5, 3) := by decide +kernel
theorem d_M_rounds_46 : decode c_M_rounds 46 = .ok (.ldc 39, 2) := by decide +kernel
theorem d_M_rounds_48 : decode c_M_rounds 48 = .ok (.ireturn, 1) := by decide +kernel
theorem d_M_setYear_0 : decode c_M_setYear 0 = .ok (.aload_n 0, 1) := by decide +kernel
theorem d_M_setYear_1 : decode c_M_setYear 1 = .ok (.iload_n 1, 1) := by decide +kernel
theorem d_M_setYear_2 : decode c_M_setYear 2 = .ok (.putfield 40, 3) := by decide +kernel
theorem d_M_setYear_5 : decode c_M_setYear 5 = .ok (.aload_n 0, 1) := by decide +kernel
theorem d_M_setYear_6 : decode c_M_setYear 6 = .ok (.lload_n 2, 1) := by decide +kernel
theorem d_M_setYear_7 : decode c_M_setYear 7 = .ok (.putfield 177, 3) := by decide +kernel
theorem d_M_setYear_10 : decode c_M_setYear 10 = .ok (.aload_n 0, 1) := by decide +kernel
theorem d_M_setYear_11 : decode c_M_setYear 11 = .ok (.lload 4, 2) := by decide +kernel
theorem d_M_setYear_13 : decode c_M_setYear 13 = .ok (.putfield 181, 3) := by decide +kernel
theorem d_M_setYear_16 : decode c_M_setYear 16 = .ok (.aload_n 0, 1) := by decide +kernel
theorem d_M_setYear_17 : decode c_M_setYear 17 = .ok (.lload 6, 2) := by decide +kernel
theorem d_M_setYear_19 : decode c_M_setYear 19 = .ok (.putfield 184, 3) := by decide +kernel
theorem d_M_setYear_22 : decode c_M_setYear 22 = .ok (.return_, 1) := by decide +kernel
theorem d_M_skips_0 : decode c_M_skips 0 = .ok (.iload_n 0, 1) := by decide +kernel
theorem d_M_skips_1 : decode c_M_skips 1 = .ok (.iconst 1, 1) := by decide +kernel
theorem d_M_skips_2 : decode c_M_skips 2 = .ok (.if_icmp .eq 9, 3) := by decide +kernel
theorem d_M_skips_5 : decode c_M_skips 5 = .ok (.iload_n 0, 1) := by decide +kernel
theorem d_M_skips_6 : decode c_M_skips 6 = .ok (.bipush 6, 2) := by decide +kernel
theorem d_M_skips_8 : decode c_M_skips 8 = .ok (.if_icmp .ne 7, 3) := by decide +kernel
theorem d_M_skips_11 : decode c_M_skips 11 = .ok (.iconst 1, 1) := by decide +kernel
theorem d_M_skips_12 : decode c_M_skips 12 = .ok (.goto 4, 3) := by decide +kernel
theorem d_M_skips_15 : decode c_M_skips 15 = .ok (.iconst 0, 1) := by decide +kernel
theorem d_M_skips_16 : decode c_M_skips 16 = .ok (.ireturn, 1) := by decide +kernel
theorem d_M_slash_0 : decode c_M_slash 0 = .ok (.iload_n 1, 1) := by decide +kernel
theorem d_M_slash_1 : decode c_M_slash 1 = .ok (.istore_n 2, 1) := by decide +kernel
theorem d_M_slash_2 : decode c_M_slash 2 = .ok (.iload_n 2, 1) := by decide +kernel
theorem d_M_slash_3 : decode c_M_slash 3 = .ok (.aload_n 0, 1) := by decide +kernel
theorem d_M_slash_4 : decode c_M_slash 4 = .ok (.getfield 305, 3) := by decide +kernel
theorem d_M_slash_7 : decode c_M_slash 7 = .ok (.if_icmp .ge 20, 3) := by decide +kernel
theorem d_M_slash_10 : decode c_M_slash 10 = .ok (.aload_n 0, 1) := by decide +kernel
theorem d_M_slash_11 : decode c_M_slash 11 = .ok (.getfield 44, 3) := by decide +kernel
theorem d_M_slash_14 : decode c_M_slash 14 = .ok (.iload_n 2, 1) := by decide +kernel
theorem d_M_slash_15 : decode c_M_slash 15 = .ok (.caload, 1) := by decide +kernel
theorem d_M_slash_16 : decode c_M_slash 16 = .ok (.bipush 47, 2) := by decide +kernel
theorem d_M_slash_18 : decode c_M_slash 18 = .ok (.if_icmp .eq 9, 3) := by decide +kernel
theorem d_M_slash_21 : decode c_M_slash 21 = .ok (.iinc 2 1, 3) := by decide +kernel
theorem d_M_slash_24 : decode c_M_slash 24 = .ok (.goto (-22), 3) := by decide +kernel
theorem d_M_slash_27 : decode c_M_slash 27 = .ok (.iload_n 2, 1) := by decide +kernel
theorem d_M_slash_28 : decode c_M_slash 28 = .ok (.ireturn, 1) := by decide +kernel
theorem d_M_start_0 : decode c_M_start 0 = .ok (.iload_n 1, 1) := by decide +kernel
theorem d_M_start_1 : decode c_M_start 1 = .ok (.bipush 9, 2) := by decide +kernel
theorem d_M_start_3 : decode c_M_start 3 = .ok (.if_icmp .ne 8, 3) := by decide +kernel
theorem d_M_start_6 : decode c_M_start 6 = .ok (.lload_n 2, 1) := by decide +kernel
theorem d_M_start_7 : decode c_M_start 7 = .ok (.invokestatic 158, 3) := by decide +kernel
theorem d_M_start_10 : decode c_M_start 10 = .ok (.lreturn, 1) := by decide +kernel
theorem d_M_start_11 : decode c_M_start 11 = .ok (.iload_n 1, 1) := by decide +kernel
theorem d_M_start_12 : decode c_M_start 12 = .ok (.iconst 2, 1) := by decide +kernel
theorem d_M_start_13 : decode c_M_start 13 = .ok (.if_icmp .ne 29, 3) := by decide +kernel
theorem d_M_start_16 : decode c_M_start 16 = .ok (.aload_n 0, 1) := by decide +kernel
theorem d_M_start_17 : decode c_M_start 17 = .ok (.iconst 0, 1) := by decide +kernel
theorem d_M_start_18 : decode c_M_start 18 = .ok (.lload_n 2, 1) := by decide +kernel
theorem d_M_start_19 : decode c_M_start 19 = .ok (.invokevirtual 173, 3) := by decide +kernel
theorem d_M_start_22 : decode c_M_start 22 = .ok (.ldc2_w 76, 3) := by decide +kernel
theorem d_M_start_25 : decode c_M_start 25 = .ok (.ladd, 1) := by decide +kernel
theorem d_M_start_26 : decode c_M_start 26 = .ok (.lstore 4, 2) := by decide +kernel
theorem d_M_start_28 : decode c_M_start 28 = .ok (.lload 4, 2) := by decide +kernel
theorem d_M_start_30 : decode c_M_start 30 = .ok (.lload 4, 2) := by decide +kernel
theorem d_M_start_32 : decode c_M_start 32 = .ok (.lconst 1, 1) := by decide +kernel
theorem d_M_start_33 : decode c_M_start 33 = .ok (.lsub, 1) := by decide +kernel
theorem d_M_start_34 : decode c_M_start 34 = .ok (.ldc2_w 98, 3) := by decide +kernel
theorem d_M_start_37 : decode c_M_start 37 = .ok (.invokestatic 65, 3) := by decide +kernel
theorem d_M_start_40 : decode c_M_start 40 = .ok (.lsub, 1) := by decide +kernel
theorem d_M_start_41 : decode c_M_start 41 = .ok (.lreturn, 1) := by decide +kernel
theorem d_M_start_42 : decode c_M_start 42 = .ok (.aload_n 0, 1) := by decide +kernel
theorem d_M_start_43 : decode c_M_start 43 = .ok (.iload_n 1, 1) := by decide +kernel
theorem d_M_start_44 : decode c_M_start 44 = .ok (.lload_n 2, 1) := by decide +kernel
theorem d_M_start_45 : decode c_M_start 45 = .ok (.invokevirtual 173, 3) := by decide +kernel
theorem d_M_start_48 : decode c_M_start 48 = .ok (.lreturn, 1) := by decide +kernel
theorem d_M_sundayBehind_0 : decode c_M_sundayBehind 0 = .ok (.lload_n 0, 1) := by decide +kernel
theorem d_M_sundayBehind_1 : decode c_M_sundayBehind 1 = .ok (.ldc2_w 98, 3) := by decide +kernel
theorem d_M_sundayBehind_4 : decode c_M_sundayBehind 4 = .ok (.ladd, 1) := by decide +kernel
theorem d_M_sundayBehind_5 : decode c_M_sundayBehind 5 = .ok (.lload_n 0, 1) := by decide +kernel
theorem d_M_sundayBehind_6 : decode c_M_sundayBehind 6 = .ok (.ldc2_w 98, 3) := by decide +kernel
theorem d_M_sundayBehind_9 : decode c_M_sundayBehind 9 = .ok (.invokestatic 65, 3) := by decide +kernel
theorem d_M_sundayBehind_12 : decode c_M_sundayBehind 12 = .ok (.lsub, 1) := by decide +kernel
theorem d_M_sundayBehind_13 : decode c_M_sundayBehind 13 = .ok (.lreturn, 1) := by decide +kernel
theorem d_M_thrown_0 : decode c_M_thrown 0 = .ok (.aload_n 0, 1) := by decide +kernel
theorem d_M_thrown_1 : decode c_M_thrown 1 = .ok (.getfield 52, 3) := by decide +kernel
theorem d_M_thrown_4 : decode c_M_thrown 4 = .ok (.ireturn, 1) := by decide +kernel
theorem d_M_type_0 : decode c_M_type 0 = .ok (.aload_n 0, 1) := by decide +kernel
theorem d_M_type_1 : decode c_M_type 1 = .ok (.iconst 0, 1) := by decide +kernel
theorem d_M_type_2 : decode c_M_type 2 = .ok (.putfield 52, 3) := by decide +kernel
theorem d_M_type_5 : decode c_M_type 5 = .ok (.iload_n 1, 1) := by decide +kernel
theorem d_M_type_6 : decode c_M_type 6 = .ok (.bipush 48, 2) := by decide +kernel
theorem d_M_type_8 : decode c_M_type 8 = .ok (.if_icmp .lt 9, 3) := by decide +kernel
theorem d_M_type_11 : decode c_M_type 11 = .ok (.iload_n 1, 1) := by decide +kernel
theorem d_M_type_12 : decode c_M_type 12 = .ok (.bipush 57, 2) := by decide +kernel
theorem d_M_type_14 : decode c_M_type 14 = .ok (.if_icmp .le 15, 3) := by decide +kernel
theorem d_M_type_17 : decode c_M_type 17 = .ok (.iload_n 1, 1) := by decide +kernel
theorem d_M_type_18 : decode c_M_type 18 = .ok (.bipush 45, 2) := by decide +kernel
theorem d_M_type_20 : decode c_M_type 20 = .ok (.if_icmp .eq 9, 3) := by decide +kernel
theorem d_M_type_23 : decode c_M_type 23 = .ok (.iload_n 1, 1) := by decide +kernel
theorem d_M_type_24 : decode c_M_type 24 = .ok (.bipush 47, 2) := by decide +kernel
theorem d_M_type_26 : decode c_M_type 26 = .ok (.if_icmp .ne 12, 3) := by decide +kernel
theorem d_M_type_29 : decode c_M_type 29 = .ok (.aload_n 0, 1) := by decide +kernel
theorem d_M_type_30 : decode c_M_type 30 = .ok (.getfield 305, 3) := by decide +kernel
theorem d_M_type_33 : decode c_M_type 33 = .ok (.bipush 24, 2) := by decide +kernel
theorem d_M_type_35 : decode c_M_type 35 = .ok (.if_icmp .ne 5, 3) := by decide +kernel
theorem d_M_type_38 : decode c_M_type 38 = .ok (.iconst 0, 1) := by decide +kernel
theorem d_M_type_39 : decode c_M_type 39 = .ok (.ireturn, 1) := by decide +kernel
theorem d_M_type_40 : decode c_M_type 40 = .ok (.aload_n 0, 1) := by decide +kernel
theorem d_M_type_41 : decode c_M_type 41 = .ok (.getfield 44, 3) := by decide +kernel
theorem d_M_type_44 : decode c_M_type 44 = .ok (.aload_n 0, 1) := by decide +kernel
theorem d_M_type_45 : decode c_M_type 45 = .ok (.getfield 305, 3) := by decide +kernel
theorem d_M_type_48 : decode c_M_type 48 = .ok (.iload_n 1, 1) := by decide +kernel
theorem d_M_type_49 : decode c_M_type 49 = .ok (.castore, 1) := by decide +kernel
theorem d_M_type_50 : decode c_M_type 50 = .ok (.aload_n 0, 1) := by decide +kernel
theorem d_M_type_51 : decode c_M_type 51 = .ok (.dup, 1) := by decide +kernel
theorem d_M_type_52 : decode c_M_type 52 = .ok (.getfield 305, 3) := by decide +kernel
theorem d_M_type_55 : decode c_M_type 55 = .ok (.iconst 1, 1) := by decide +kernel
theorem d_M_type_56 : decode c_M_type 56 = .ok (.iadd, 1) := by decide +kernel
theorem d_M_type_57 : decode c_M_type 57 = .ok (.putfield 305, 3) := by decide +kernel
theorem d_M_type_60 : decode c_M_type 60 = .ok (.iconst 1, 1) := by decide +kernel
theorem d_M_type_61 : decode c_M_type 61 = .ok (.ireturn, 1) := by decide +kernel
theorem d_M_when_0 : decode c_M_when 0 = .ok (.aload_n 0, 1) := by decide +kernel
theorem d_M_when_1 : decode c_M_when 1 = .ok (.aload_n 0, 1) := by decide +kernel
theorem d_M_when_2 : decode c_M_when 2 = .ok (.iload_n 1, 1) := by decide +kernel
theorem d_M_when_3 : decode c_M_when 3 = .ok (.invokevirtual 269, 3) := by decide +kernel
theorem d_M_when_6 : decode c_M_when 6 = .ok (.ifCond .ne 7, 3) := by decide +kernel
theorem d_M_when_9 : decode c_M_when 9 = .ok (.iconst 1, 1) := by decide +kernel
theorem d_M_when_10 : decode c_M_when 10 = .ok (.goto 24, 3) := by decide +kernel
theorem d_M_when_13 : decode c_M_when 13 = .ok (.iload 4, 2) := by decide +kernel
theorem d_M_when_15 : decode c_M_when 15 = .ok (.ldc_w 292, 3) := by decide +kernel
theorem d_M_when_18 : decode c_M_when 18 = .ok (.if_icmp .lt 11, 3) := by decide +kernel
theorem d_M_when_21 : decode c_M_when 21 = .ok (.iload 4, 2) := by decide +kernel
theorem d_M_when_23 : decode c_M_when 23 = .ok (.ldc_w 293, 3) := by decide +kernel
theorem d_M_when_26 : decode c_M_when 26 = .ok (.if_icmp .le 7, 3) := by decide +kernel
theorem d_M_when_29 : decode c_M_when 29 = .ok (.iconst 2, 1) := by decide +kernel
theorem d_M_when_30 : decode c_M_when 30 = .ok (.goto 4, 3) := by decide +kernel
theorem d_M_when_33 : decode c_M_when 33 = .ok (.iconst 0, 1) := by decide +kernel
theorem d_M_when_34 : decode c_M_when 34 = .ok (.putfield 52, 3) := by decide +kernel
theorem d_M_when_37 : decode c_M_when 37 = .ok (.aload_n 0, 1) := by decide +kernel
theorem d_M_when_38 : decode c_M_when 38 = .ok (.getfield 52, 3) := by decide +kernel
theorem d_M_when_41 : decode c_M_when 41 = .ok (.ifCond .le 5, 3) := by decide +kernel
theorem d_M_when_44 : decode c_M_when 44 = .ok (.iconst 0, 1) := by decide +kernel
theorem d_M_when_45 : decode c_M_when 45 = .ok (.ireturn, 1) := by decide +kernel
theorem d_M_when_46 : decode c_M_when 46 = .ok (.iload 5, 2) := by decide +kernel
theorem d_M_when_48 : decode c_M_when 48 = .ok (.istore 6, 2) := by decide +kernel
theorem d_M_when_50 : decode c_M_when 50 = .ok (.aload_n 0, 1) := by decide +kernel
theorem d_M_when_51 : decode c_M_when 51 = .ok (.iconst 0, 1) := by decide +kernel
theorem d_M_when_52 : decode c_M_when 52 = .ok (.iload 4, 2) := by decide +kernel
theorem d_M_when_54 : decode c_M_when 54 = .ok (.i2l, 1) := by decide +kernel
theorem d_M_when_55 : decode c_M_when 55 = .ok (.lconst 1, 1) := by decide +kernel
theorem d_M_when_56 : decode c_M_when 56 = .ok (.ladd, 1) := by decide +kernel
theorem d_M_when_57 : decode c_M_when 57 = .ok (.invokevirtual 191, 3) := by decide +kernel
theorem d_M_when_60 : decode c_M_when 60 = .ok (.lstore 7, 2) := by decide +kernel
theorem d_M_when_62 : decode c_M_when 62 = .ok (.aload_n 0, 1) := by decide +kernel
theorem d_M_when_63 : decode c_M_when 63 = .ok (.iconst 0, 1) := by decide +kernel
theorem d_M_when_64 : decode c_M_when 64 = .ok (.iload 4, 2) := by decide +kernel
theorem d_M_when_66 : decode c_M_when 66 = .ok (.i2l, 1) := by decide +kernel
theorem d_M_when_67 : decode c_M_when 67 = .ok (.invokevirtual 191, 3) := by decide +kernel
theorem d_M_when_70 : decode c_M_when 70 = .ok (.lstore 9, 2) := by decide +kernel
theorem d_M_when_72 : decode c_M_when 72 = .ok (.lload 9, 2) := by decide +kernel
theorem d_M_when_74 : decode c_M_when 74 = .ok (.lload 7, 2) := by decide +kernel
theorem d_M_when_76 : decode c_M_when 76 = .ok (.lcmp, 1) := by decide +kernel
theorem d_M_when_77 : decode c_M_when 77 = .ok (.ifCond .ge 47, 3) := by decide +kernel
theorem d_M_when_80 : decode c_M_when 80 = .ok (.aload_n 0, 1) := by decide +kernel
theorem d_M_when_81 : decode c_M_when 81 = .ok (.iload_n 1, 1) := by decide +kernel
theorem d_M_when_82 : decode c_M_when 82 = .ok (.lload 9, 2) := by decide +kernel
theorem d_M_when_84 : decode c_M_when 84 = .ok (.invokevirtual 243, 3) := by decide +kernel
theorem d_M_when_87 : decode c_M_when 87 = .ok (.aload_n 0, 1) := by decide +kernel
theorem d_M_when_88 : decode c_M_when 88 = .ok (.getfield 217, 3) := by decide +kernel
theorem d_M_when_91 : decode c_M_when 91 = .ok (.iload_n 2, 1) := by decide +kernel
theorem d_M_when_92 : decode c_M_when 92 = .ok (.if_icmp .ne 23, 3) := by decide +kernel
theorem d_M_when_95 : decode c_M_when 95 = .ok (.aload_n 0, 1) := by decide +kernel
theorem d_M_when_96 : decode c_M_when 96 = .ok (.getfield 222, 3) := by decide +kernel
theorem d_M_when_99 : decode c_M_when 99 = .ok (.iload_n 3, 1) := by decide +kernel
theorem d_M_when_100 : decode c_M_when 100 = .ok (.if_icmp .ne 15, 3) := by decide +kernel
theorem d_M_when_103 : decode c_M_when 103 = .ok (.iload 6, 2) := by decide +kernel
theorem d_M_when_105 : decode c_M_when 105 = .ok (.ifCond .ne 7, 3) := by decide +kernel
theorem d_M_when_108 : decode c_M_when 108 = .ok (.lload 9, 2) := by decide +kernel
theorem d_M_when_110 : decode c_M_when 110 = .ok (.l2i, 1) := by decide +kernel
theorem d_M_when_111 : decode c_M_when 111 = .ok (.ireturn, 1) := by decide +kernel
theorem d_M_when_112 : decode c_M_when 112 = .ok (.iinc 6 (-1), 3) := by decide +kernel
theorem d_M_when_115 : decode c_M_when 115 = .ok (.lload 9, 2) := by decide +kernel
theorem d_M_when_117 : decode c_M_when 117 = .ok (.lconst 1, 1) := by decide +kernel
theorem d_M_when_118 : decode c_M_when 118 = .ok (.ladd, 1) := by decide +kernel
theorem d_M_when_119 : decode c_M_when 119 = .ok (.lstore 9, 2) := by decide +kernel
theorem d_M_when_121 : decode c_M_when 121 = .ok (.goto (-49), 3) := by decide +kernel
theorem d_M_when_124 : decode c_M_when 124 = .ok (.ldc 39, 2) := by decide +kernel
theorem d_M_when_126 : decode c_M_when 126 = .ok (.ireturn, 1) := by decide +kernel
theorem d_M_wipe_0 : decode c_M_wipe 0 = .ok (.aload_n 0, 1) := by decide +kernel
theorem d_M_wipe_1 : decode c_M_wipe 1 = .ok (.iconst 0, 1) := by decide +kernel
theorem d_M_wipe_2 : decode c_M_wipe 2 = .ok (.putfield 52, 3) := by decide +kernel
theorem d_M_wipe_5 : decode c_M_wipe 5 = .ok (.aload_n 0, 1) := by decide +kernel
theorem d_M_wipe_6 : decode c_M_wipe 6 = .ok (.getfield 305, 3) := by decide +kernel
theorem d_M_wipe_9 : decode c_M_wipe 9 = .ok (.istore_n 1, 1) := by decide +kernel
theorem d_M_wipe_10 : decode c_M_wipe 10 = .ok (.aload_n 0, 1) := by decide +kernel
theorem d_M_wipe_11 : decode c_M_wipe 11 = .ok (.iconst 0, 1) := by decide +kernel
theorem d_M_wipe_12 : decode c_M_wipe 12 = .ok (.putfield 305, 3) := by decide +kernel
theorem d_M_wipe_15 : decode c_M_wipe 15 = .ok (.iload_n 1, 1) := by decide +kernel
theorem d_M_wipe_16 : decode c_M_wipe 16 = .ok (.ireturn, 1) := by decide +kernel
theorem d_M_write_0 : decode c_M_write 0 = .ok (.aload_n 0, 1) := by decide +kernel
theorem d_M_write_1 : decode c_M_write 1 = .ok (.aload_n 0, 1) := by decide +kernel
theorem d_M_write_2 : decode c_M_write 2 = .ok (.iload_n 1, 1) := by decide +kernel
theorem d_M_write_3 : decode c_M_write 3 = .ok (.invokevirtual 269, 3) := by decide +kernel
theorem d_M_write_6 : decode c_M_write 6 = .ok (.ifCond .ne 7, 3) := by decide +kernel
theorem d_M_write_9 : decode c_M_write 9 = .ok (.iconst 1, 1) := by decide +kernel
theorem d_M_write_10 : decode c_M_write 10 = .ok (.goto 16, 3) := by decide +kernel
theorem d_M_write_13 : decode c_M_write 13 = .ok (.iload_n 2, 1) := by decide +kernel
theorem d_M_write_14 : decode c_M_write 14 = .ok (.i2l, 1) := by decide +kernel
theorem d_M_write_15 : decode c_M_write 15 = .ok (.invokestatic 272, 3) := by decide +kernel
theorem d_M_write_18 : decode c_M_write 18 = .ok (.ifCond .ne 7, 3) := by decide +kernel
theorem d_M_write_21 : decode c_M_write 21 = .ok (.iconst 2, 1) := by decide +kernel
theorem d_M_write_22 : decode c_M_write 22 = .ok (.goto 4, 3) := by decide +kernel
theorem d_M_write_25 : decode c_M_write 25 = .ok (.iconst 0, 1) := by decide +kernel
theorem d_M_write_26 : decode c_M_write 26 = .ok (.putfield 52, 3) := by decide +kernel
theorem d_M_write_29 : decode c_M_write 29 = .ok (.aload_n 0, 1) := by decide +kernel
theorem d_M_write_30 : decode c_M_write 30 = .ok (.getfield 52, 3) := by decide +kernel
theorem d_M_write_33 : decode c_M_write 33 = .ok (.ifCond .le 5, 3) := by decide +kernel
theorem d_M_write_36 : decode c_M_write 36 = .ok (.iconst 0, 1) := by decide +kernel
theorem d_M_write_37 : decode c_M_write 37 = .ok (.ireturn, 1) := by decide +kernel
theorem d_M_write_38 : decode c_M_write 38 = .ok (.aload_n 0, 1) := by decide +kernel
theorem d_M_write_39 : decode c_M_write 39 = .ok (.iload_n 1, 1) := by decide +kernel
theorem d_M_write_40 : decode c_M_write 40 = .ok (.iload_n 2, 1) := by decide +kernel
theorem d_M_write_41 : decode c_M_write 41 = .ok (.i2l, 1) := by decide +kernel
theorem d_M_write_42 : decode c_M_write 42 = .ok (.invokevirtual 243, 3) := by decide +kernel
theorem d_M_write_45 : decode c_M_write 45 = .ok (.aload_n 0, 1) := by decide +kernel
theorem d_M_write_46 : decode c_M_write 46 = .ok (.iconst 0, 1) := by decide +kernel
theorem d_M_write_47 : decode c_M_write 47 = .ok (.putfield 305, 3) := by decide +kernel
theorem d_M_write_50 : decode c_M_write 50 = .ok (.aload_n 0, 1) := by decide +kernel
theorem d_M_write_51 : decode c_M_write 51 = .ok (.aload_n 0, 1) := by decide +kernel
theorem d_M_write_52 : decode c_M_write 52 = .ok (.getfield 212, 3) := by decide +kernel
theorem d_M_write_55 : decode c_M_write 55 = .ok (.invokevirtual 312, 3) := by decide +kernel
theorem d_M_write_58 : decode c_M_write 58 = .ok (.aload_n 0, 1) := by decide +kernel
theorem d_M_write_59 : decode c_M_write 59 = .ok (.getfield 44, 3) := by decide +kernel
theorem d_M_write_62 : decode c_M_write 62 = .ok (.aload_n 0, 1) := by decide +kernel
theorem d_M_write_63 : decode c_M_write 63 = .ok (.getfield 305, 3) := by decide +kernel
theorem d_M_write_66 : decode c_M_write 66 = .ok (.bipush 47, 2) := by decide +kernel
theorem d_M_write_68 : decode c_M_write 68 = .ok (.castore, 1) := by decide +kernel
theorem d_M_write_69 : decode c_M_write 69 = .ok (.aload_n 0, 1) := by decide +kernel
theorem d_M_write_70 : decode c_M_write 70 = .ok (.dup, 1) := by decide +kernel
theorem d_M_write_71 : decode c_M_write 71 = .ok (.getfield 305, 3) := by decide +kernel
theorem d_M_write_74 : decode c_M_write 74 = .ok (.iconst 1, 1) := by decide +kernel
theorem d_M_write_75 : decode c_M_write 75 = .ok (.iadd, 1) := by decide +kernel
theorem d_M_write_76 : decode c_M_write 76 = .ok (.putfield 305, 3) := by decide +kernel
theorem d_M_write_79 : decode c_M_write 79 = .ok (.aload_n 0, 1) := by decide +kernel
theorem d_M_write_80 : decode c_M_write 80 = .ok (.aload_n 0, 1) := by decide +kernel
theorem d_M_write_81 : decode c_M_write 81 = .ok (.getfield 217, 3) := by decide +kernel
theorem d_M_write_84 : decode c_M_write 84 = .ok (.i2l, 1) := by decide +kernel
theorem d_M_write_85 : decode c_M_write 85 = .ok (.invokevirtual 312, 3) := by decide +kernel
theorem d_M_write_88 : decode c_M_write 88 = .ok (.aload_n 0, 1) := by decide +kernel
theorem d_M_write_89 : decode c_M_write 89 = .ok (.getfield 44, 3) := by decide +kernel
theorem d_M_write_92 : decode c_M_write 92 = .ok (.aload_n 0, 1) := by decide +kernel
theorem d_M_write_93 : decode c_M_write 93 = .ok (.getfield 305, 3) := by decide +kernel
theorem d_M_write_96 : decode c_M_write 96 = .ok (.bipush 47, 2) := by decide +kernel
theorem d_M_write_98 : decode c_M_write 98 = .ok (.castore, 1) := by decide +kernel
theorem d_M_write_99 : decode c_M_write 99 = .ok (.aload_n 0, 1) := by decide +kernel
theorem d_M_write_100 : decode c_M_write 100 = .ok (.dup, 1) := by decide +kernel
theorem d_M_write_101 : decode c_M_write 101 = .ok (.getfield 305, 3) := by decide +kernel
theorem d_M_write_104 : decode c_M_write 104 = .ok (.iconst 1, 1) := by decide +kernel
theorem d_M_write_105 : decode c_M_write 105 = .ok (.iadd, 1) := by decide +kernel
theorem d_M_write_106 : decode c_M_write 106 = .ok (.putfield 305, 3) := by decide +kernel
theorem d_M_write_109 : decode c_M_write 109 = .ok (.aload_n 0, 1) := by decide +kernel
theorem d_M_write_110 : decode c_M_write 110 = .ok (.aload_n 0, 1) := by decide +kernel
theorem d_M_write_111 : decode c_M_write 111 = .ok (.getfield 222, 3) := by decide +kernel
theorem d_M_write_114 : decode c_M_write 114 = .ok (.i2l, 1) := by decide +kernel
theorem d_M_write_115 : decode c_M_write 115 = .ok (.invokevirtual 312, 3) := by decide +kernel
theorem d_M_write_118 : decode c_M_write 118 = .ok (.aload_n 0, 1) := by decide +kernel
theorem d_M_write_119 : decode c_M_write 119 = .ok (.getfield 305, 3) := by decide +kernel
theorem d_M_write_122 : decode c_M_write 122 = .ok (.ireturn, 1) := by decide +kernel
