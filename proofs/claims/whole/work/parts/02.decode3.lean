theorem dX10_blow_46 : decode cX10_blow 46 = .ok (.iload_n 1, 1) := by decide +kernel
theorem dX10_blow_47 : decode cX10_blow 47 = .ok (.iastore, 1) := by decide +kernel
theorem dX10_blow_48 : decode cX10_blow 48 = .ok (.iload_n 2, 1) := by decide +kernel
theorem dX10_blow_49 : decode cX10_blow 49 = .ok (.ireturn, 1) := by decide +kernel
theorem dX10_undo_0 : decode cX10_undo 0 = .ok (.aload_n 0, 1) := by decide +kernel
theorem dX10_undo_1 : decode cX10_undo 1 = .ok (.iconst 0, 1) := by decide +kernel
theorem dX10_undo_2 : decode cX10_undo 2 = .ok (.putfield 71, 3) := by decide +kernel
theorem dX10_undo_5 : decode cX10_undo 5 = .ok (.aload_n 0, 1) := by decide +kernel
theorem dX10_undo_6 : decode cX10_undo 6 = .ok (.getfield 141, 3) := by decide +kernel
theorem dX10_undo_9 : decode cX10_undo 9 = .ok (.ifCond .ne 6, 3) := by decide +kernel
theorem dX10_undo_12 : decode cX10_undo 12 = .ok (.bipush (-3), 2) := by decide +kernel
theorem dX10_undo_14 : decode cX10_undo 14 = .ok (.ireturn, 1) := by decide +kernel
theorem dX10_undo_15 : decode cX10_undo 15 = .ok (.aload_n 0, 1) := by decide +kernel
theorem dX10_undo_16 : decode cX10_undo 16 = .ok (.dup, 1) := by decide +kernel
theorem dX10_undo_17 : decode cX10_undo 17 = .ok (.getfield 141, 3) := by decide +kernel
theorem dX10_undo_20 : decode cX10_undo 20 = .ok (.iconst 1, 1) := by decide +kernel
theorem dX10_undo_21 : decode cX10_undo 21 = .ok (.isub, 1) := by decide +kernel
theorem dX10_undo_22 : decode cX10_undo 22 = .ok (.putfield 141, 3) := by decide +kernel
theorem dX10_undo_25 : decode cX10_undo 25 = .ok (.iconst 0, 1) := by decide +kernel
theorem dX10_undo_26 : decode cX10_undo 26 = .ok (.istore_n 1, 1) := by decide +kernel
theorem dX10_undo_27 : decode cX10_undo 27 = .ok (.iload_n 1, 1) := by decide +kernel
theorem dX10_undo_28 : decode cX10_undo 28 = .ok (.bipush 15, 2) := by decide +kernel
theorem dX10_undo_30 : decode cX10_undo 30 = .ok (.if_icmp .ge 29, 3) := by decide +kernel
theorem dX10_undo_33 : decode cX10_undo 33 = .ok (.aload_n 0, 1) := by decide +kernel
theorem dX10_undo_34 : decode cX10_undo 34 = .ok (.getfield 31, 3) := by decide +kernel
theorem dX10_undo_37 : decode cX10_undo 37 = .ok (.iload_n 1, 1) := by decide +kernel
theorem dX10_undo_38 : decode cX10_undo 38 = .ok (.aload_n 0, 1) := by decide +kernel
theorem dX10_undo_39 : decode cX10_undo 39 = .ok (.getfield 40, 3) := by decide +kernel
theorem dX10_undo_42 : decode cX10_undo 42 = .ok (.bipush 15, 2) := by decide +kernel
theorem dX10_undo_44 : decode cX10_undo 44 = .ok (.aload_n 0, 1) := by decide +kernel
theorem dX10_undo_45 : decode cX10_undo 45 = .ok (.getfield 141, 3) := by decide +kernel
theorem dX10_undo_48 : decode cX10_undo 48 = .ok (.imul, 1) := by decide +kernel
theorem dX10_undo_49 : decode cX10_undo 49 = .ok (.iload_n 1, 1) := by decide +kernel
theorem dX10_undo_50 : decode cX10_undo 50 = .ok (.iadd, 1) := by decide +kernel
theorem dX10_undo_51 : decode cX10_undo 51 = .ok (.iaload, 1) := by decide +kernel
theorem dX10_undo_52 : decode cX10_undo 52 = .ok (.iastore, 1) := by decide +kernel
theorem dX10_undo_53 : decode cX10_undo 53 = .ok (.iinc 1 1, 3) := by decide +kernel
theorem dX10_undo_56 : decode cX10_undo 56 = .ok (.goto (-29), 3) := by decide +kernel
theorem dX10_undo_59 : decode cX10_undo 59 = .ok (.aload_n 0, 1) := by decide +kernel
theorem dX10_undo_60 : decode cX10_undo 60 = .ok (.getfield 141, 3) := by decide +kernel
theorem dX10_undo_63 : decode cX10_undo 63 = .ok (.ireturn, 1) := by decide +kernel
theorem dX10_felled_0 : decode cX10_felled 0 = .ok (.aload_n 0, 1) := by decide +kernel
theorem dX10_felled_1 : decode cX10_felled 1 = .ok (.iconst 0, 1) := by decide +kernel
theorem dX10_felled_2 : decode cX10_felled 2 = .ok (.putfield 71, 3) := by decide +kernel
theorem dX10_felled_5 : decode cX10_felled 5 = .ok (.aload_n 0, 1) := by decide +kernel
theorem dX10_felled_6 : decode cX10_felled 6 = .ok (.iload_n 1, 1) := by decide +kernel
theorem dX10_felled_7 : decode cX10_felled 7 = .ok (.iload_n 2, 1) := by decide +kernel
theorem dX10_felled_8 : decode cX10_felled 8 = .ok (.iload_n 3, 1) := by decide +kernel
theorem dX10_felled_9 : decode cX10_felled 9 = .ok (.invokevirtual 188, 3) := by decide +kernel
theorem dX10_felled_12 : decode cX10_felled 12 = .ok (.istore 4, 2) := by decide +kernel
theorem dX10_felled_14 : decode cX10_felled 14 = .ok (.iload 4, 2) := by decide +kernel
theorem dX10_felled_16 : decode cX10_felled 16 = .ok (.ifCond .eq 6, 3) := by decide +kernel
theorem dX10_felled_19 : decode cX10_felled 19 = .ok (.iload 4, 2) := by decide +kernel
theorem dX10_felled_21 : decode cX10_felled 21 = .ok (.ireturn, 1) := by decide +kernel
theorem dX10_felled_22 : decode cX10_felled 22 = .ok (.aload_n 0, 1) := by decide +kernel
theorem dX10_felled_23 : decode cX10_felled 23 = .ok (.getfield 31, 3) := by decide +kernel
theorem dX10_felled_26 : decode cX10_felled 26 = .ok (.aload_n 0, 1) := by decide +kernel
theorem dX10_felled_27 : decode cX10_felled 27 = .ok (.getfield 34, 3) := by decide +kernel
theorem dX10_felled_30 : decode cX10_felled 30 = .ok (.bipush 15, 2) := by decide +kernel
theorem dX10_felled_32 : decode cX10_felled 32 = .ok (.invokestatic 137, 3) := by decide +kernel
theorem dX10_felled_35 : decode cX10_felled 35 = .ok (.aload_n 0, 1) := by decide +kernel
theorem dX10_felled_36 : decode cX10_felled 36 = .ok (.aload_n 0, 1) := by decide +kernel
theorem dX10_felled_37 : decode cX10_felled 37 = .ok (.getfield 34, 3) := by decide +kernel
theorem dX10_felled_40 : decode cX10_felled 40 = .ok (.iload_n 1, 1) := by decide +kernel
theorem dX10_felled_41 : decode cX10_felled 41 = .ok (.iload_n 2, 1) := by decide +kernel
theorem dX10_felled_42 : decode cX10_felled 42 = .ok (.iload_n 3, 1) := by decide +kernel
theorem dX10_felled_43 : decode cX10_felled 43 = .ok (.invokevirtual 195, 3) := by decide +kernel
theorem dX10_felled_46 : decode cX10_felled 46 = .ok (.aload_n 0, 1) := by decide +kernel
theorem dX10_felled_47 : decode cX10_felled 47 = .ok (.getfield 34, 3) := by decide +kernel
theorem dX10_felled_50 : decode cX10_felled 50 = .ok (.bipush 12, 2) := by decide +kernel
theorem dX10_felled_52 : decode cX10_felled 52 = .ok (.iaload, 1) := by decide +kernel
theorem dX10_felled_53 : decode cX10_felled 53 = .ok (.ireturn, 1) := by decide +kernel
theorem dX10_power_0 : decode cX10_power 0 = .ok (.iconst 1, 1) := by decide +kernel
theorem dX10_power_1 : decode cX10_power 1 = .ok (.istore_n 2, 1) := by decide +kernel
theorem dX10_power_2 : decode cX10_power 2 = .ok (.iconst 0, 1) := by decide +kernel
theorem dX10_power_3 : decode cX10_power 3 = .ok (.istore_n 3, 1) := by decide +kernel
theorem dX10_power_4 : decode cX10_power 4 = .ok (.iload_n 3, 1) := by decide +kernel
theorem dX10_power_5 : decode cX10_power 5 = .ok (.iload_n 1, 1) := by decide +kernel
theorem dX10_power_6 : decode cX10_power 6 = .ok (.if_icmp .ge 13, 3) := by decide +kernel
theorem dX10_power_9 : decode cX10_power 9 = .ok (.iload_n 2, 1) := by decide +kernel
theorem dX10_power_10 : decode cX10_power 10 = .ok (.iload_n 0, 1) := by decide +kernel
theorem dX10_power_11 : decode cX10_power 11 = .ok (.imul, 1) := by decide +kernel
theorem dX10_power_12 : decode cX10_power 12 = .ok (.istore_n 2, 1) := by decide +kernel
theorem dX10_power_13 : decode cX10_power 13 = .ok (.iinc 3 1, 3) := by decide +kernel
theorem dX10_power_16 : decode cX10_power 16 = .ok (.goto (-12), 3) := by decide +kernel
theorem dX10_power_19 : decode cX10_power 19 = .ok (.iload_n 2, 1) := by decide +kernel
theorem dX10_power_20 : decode cX10_power 20 = .ok (.ireturn, 1) := by decide +kernel
theorem dX10_throwsAt_0 : decode cX10_throwsAt 0 = .ok (.aload_n 0, 1) := by decide +kernel
theorem dX10_throwsAt_1 : decode cX10_throwsAt 1 = .ok (.aload_n 0, 1) := by decide +kernel
theorem dX10_throwsAt_2 : decode cX10_throwsAt 2 = .ok (.getfield 34, 3) := by decide +kernel
theorem dX10_throwsAt_5 : decode cX10_throwsAt 5 = .ok (.iload_n 1, 1) := by decide +kernel
theorem dX10_throwsAt_6 : decode cX10_throwsAt 6 = .ok (.iload_n 2, 1) := by decide +kernel
theorem dX10_throwsAt_7 : decode cX10_throwsAt 7 = .ok (.invokevirtual 202, 3) := by decide +kernel
theorem dX10_throwsAt_10 : decode cX10_throwsAt 10 = .ok (.istore_n 3, 1) := by decide +kernel
theorem dX10_throwsAt_11 : decode cX10_throwsAt 11 = .ok (.iload_n 3, 1) := by decide +kernel
theorem dX10_throwsAt_12 : decode cX10_throwsAt 12 = .ok (.bipush (-9), 2) := by decide +kernel
theorem dX10_throwsAt_14 : decode cX10_throwsAt 14 = .ok (.if_icmp .ne 5, 3) := by decide +kernel
theorem dX10_throwsAt_17 : decode cX10_throwsAt 17 = .ok (.iconst 0, 1) := by decide +kernel
theorem dX10_throwsAt_18 : decode cX10_throwsAt 18 = .ok (.ireturn, 1) := by decide +kernel
theorem dX10_throwsAt_19 : decode cX10_throwsAt 19 = .ok (.aload_n 0, 1) := by decide +kernel
theorem dX10_throwsAt_20 : decode cX10_throwsAt 20 = .ok (.aload_n 0, 1) := by decide +kernel
theorem dX10_throwsAt_21 : decode cX10_throwsAt 21 = .ok (.getfield 34, 3) := by decide +kernel
theorem dX10_throwsAt_24 : decode cX10_throwsAt 24 = .ok (.iload_n 1, 1) := by decide +kernel
theorem dX10_throwsAt_25 : decode cX10_throwsAt 25 = .ok (.iload_n 3, 1) := by decide +kernel
theorem dX10_throwsAt_26 : decode cX10_throwsAt 26 = .ok (.iconst 0, 1) := by decide +kernel
theorem dX10_throwsAt_27 : decode cX10_throwsAt 27 = .ok (.invokevirtual 195, 3) := by decide +kernel
theorem dX10_throwsAt_30 : decode cX10_throwsAt 30 = .ok (.iconst 1, 1) := by decide +kernel
theorem dX10_throwsAt_31 : decode cX10_throwsAt 31 = .ok (.ireturn, 1) := by decide +kernel
theorem dX10_findFewest_0 : decode cX10_findFewest 0 = .ok (.aload_n 0, 1) := by decide +kernel
theorem dX10_findFewest_1 : decode cX10_findFewest 1 = .ok (.getfield 31, 3) := by decide +kernel
theorem dX10_findFewest_4 : decode cX10_findFewest 4 = .ok (.bipush 12, 2) := by decide +kernel
theorem dX10_findFewest_6 : decode cX10_findFewest 6 = .ok (.iaload, 1) := by decide +kernel
theorem dX10_findFewest_7 : decode cX10_findFewest 7 = .ok (.iload_n 1, 1) := by decide +kernel
theorem dX10_findFewest_8 : decode cX10_findFewest 8 = .ok (.invokestatic 144, 3) := by decide +kernel
theorem dX10_findFewest_11 : decode cX10_findFewest 11 = .ok (.istore_n 2, 1) := by decide +kernel
theorem dX10_findFewest_12 : decode cX10_findFewest 12 = .ok (.aload_n 0, 1) := by decide +kernel
theorem dX10_findFewest_13 : decode cX10_findFewest 13 = .ok (.iload_n 2, 1) := by decide +kernel
theorem dX10_findFewest_14 : decode cX10_findFewest 14 = .ok (.ifCond .eq 7, 3) := by decide +kernel
theorem dX10_findFewest_17 : decode cX10_findFewest 17 = .ok (.iconst 0, 1) := by decide +kernel
theorem dX10_findFewest_18 : decode cX10_findFewest 18 = .ok (.goto 5, 3) := by decide +kernel
theorem dX10_findFewest_21 : decode cX10_findFewest 21 = .ok (.bipush (-9), 2) := by decide +kernel
theorem dX10_findFewest_23 : decode cX10_findFewest 23 = .ok (.putfield 206, 3) := by decide +kernel
theorem dX10_findFewest_26 : decode cX10_findFewest 26 = .ok (.aload_n 0, 1) := by decide +kernel
theorem dX10_findFewest_27 : decode cX10_findFewest 27 = .ok (.iload_n 2, 1) := by decide +kernel
theorem dX10_findFewest_28 : decode cX10_findFewest 28 = .ok (.ifCond .eq 7, 3) := by decide +kernel
theorem dX10_findFewest_31 : decode cX10_findFewest 31 = .ok (.iconst 0, 1) := by decide +kernel
theorem dX10_findFewest_32 : decode cX10_findFewest 32 = .ok (.goto 5, 3) := by decide +kernel
theorem dX10_findFewest_35 : decode cX10_findFewest 35 = .ok (.bipush (-9), 2) := by decide +kernel
theorem dX10_findFewest_37 : decode cX10_findFewest 37 = .ok (.putfield 209, 3) := by decide +kernel
theorem dX10_findFewest_40 : decode cX10_findFewest 40 = .ok (.aload_n 0, 1) := by decide +kernel
theorem dX10_findFewest_41 : decode cX10_findFewest 41 = .ok (.getfield 82, 3) := by decide +kernel
theorem dX10_findFewest_44 : decode cX10_findFewest 44 = .ok (.aload_n 0, 1) := by decide +kernel
theorem dX10_findFewest_45 : decode cX10_findFewest 45 = .ok (.getfield 75, 3) := by decide +kernel
theorem dX10_findFewest_48 : decode cX10_findFewest 48 = .ok (.imul, 1) := by decide +kernel
theorem dX10_findFewest_49 : decode cX10_findFewest 49 = .ok (.istore_n 3, 1) := by decide +kernel
theorem dX10_findFewest_50 : decode cX10_findFewest 50 = .ok (.iconst 1, 1) := by decide +kernel
theorem dX10_findFewest_51 : decode cX10_findFewest 51 = .ok (.istore 4, 2) := by decide +kernel
theorem dX10_findFewest_53 : decode cX10_findFewest 53 = .ok (.iload 4, 2) := by decide +kernel
theorem dX10_findFewest_55 : decode cX10_findFewest 55 = .ok (.iconst 4, 1) := by decide +kernel
theorem dX10_findFewest_56 : decode cX10_findFewest 56 = .ok (.if_icmp .ge 182, 3) := by decide +kernel
theorem dX10_findFewest_59 : decode cX10_findFewest 59 = .ok (.aload_n 0, 1) := by decide +kernel
theorem dX10_findFewest_60 : decode cX10_findFewest 60 = .ok (.getfield 206, 3) := by decide +kernel
theorem dX10_findFewest_63 : decode cX10_findFewest 63 = .ok (.bipush (-9), 2) := by decide +kernel
theorem dX10_findFewest_65 : decode cX10_findFewest 65 = .ok (.if_icmp .ne 173, 3) := by decide +kernel
theorem dX10_findFewest_68 : decode cX10_findFewest 68 = .ok (.iconst 0, 1) := by decide +kernel
theorem dX10_findFewest_69 : decode cX10_findFewest 69 = .ok (.istore 5, 2) := by decide +kernel
theorem dX10_findFewest_71 : decode cX10_findFewest 71 = .ok (.iload 5, 2) := by decide +kernel
theorem dX10_findFewest_73 : decode cX10_findFewest 73 = .ok (.iload_n 3, 1) := by decide +kernel
theorem dX10_findFewest_74 : decode cX10_findFewest 74 = .ok (.iload 4, 2) := by decide +kernel
theorem dX10_findFewest_76 : decode cX10_findFewest 76 = .ok (.invokestatic 212, 3) := by decide +kernel
theorem dX10_findFewest_79 : decode cX10_findFewest 79 = .ok (.if_icmp .ge 153, 3) := by decide +kernel
theorem dX10_findFewest_82 : decode cX10_findFewest 82 = .ok (.aload_n 0, 1) := by decide +kernel
theorem dX10_findFewest_83 : decode cX10_findFewest 83 = .ok (.getfield 206, 3) := by decide +kernel
theorem dX10_findFewest_86 : decode cX10_findFewest 86 = .ok (.bipush (-9), 2) := by decide +kernel
theorem dX10_findFewest_88 : decode cX10_findFewest 88 = .ok (.if_icmp .ne 144, 3) := by decide +kernel
theorem dX10_findFewest_91 : decode cX10_findFewest 91 = .ok (.aload_n 0, 1) := by decide +kernel
theorem dX10_findFewest_92 : decode cX10_findFewest 92 = .ok (.getfield 31, 3) := by decide +kernel
theorem dX10_findFewest_95 : decode cX10_findFewest 95 = .ok (.aload_n 0, 1) := by decide +kernel
theorem dX10_findFewest_96 : decode cX10_findFewest 96 = .ok (.getfield 34, 3) := by decide +kernel
theorem dX10_findFewest_99 : decode cX10_findFewest 99 = .ok (.bipush 15, 2) := by decide +kernel
theorem dX10_findFewest_101 : decode cX10_findFewest 101 = .ok (.invokestatic 137, 3) := by decide +kernel
theorem dX10_findFewest_104 : decode cX10_findFewest 104 = .ok (.iconst 0, 1) := by decide +kernel
theorem dX10_findFewest_105 : decode cX10_findFewest 105 = .ok (.istore 6, 2) := by decide +kernel
theorem dX10_findFewest_107 : decode cX10_findFewest 107 = .ok (.iconst 1, 1) := by decide +kernel
theorem dX10_findFewest_108 : decode cX10_findFewest 108 = .ok (.istore 7, 2) := by decide +kernel
theorem dX10_findFewest_110 : decode cX10_findFewest 110 = .ok (.iload 4, 2) := by decide +kernel
theorem dX10_findFewest_112 : decode cX10_findFewest 112 = .ok (.iconst 1, 1) := by decide +kernel
theorem dX10_findFewest_113 : decode cX10_findFewest 113 = .ok (.isub, 1) := by decide +kernel
theorem dX10_findFewest_114 : decode cX10_findFewest 114 = .ok (.istore 8, 2) := by decide +kernel
theorem dX10_findFewest_116 : decode cX10_findFewest 116 = .ok (.iload 8, 2) := by decide +kernel
theorem dX10_findFewest_118 : decode cX10_findFewest 118 = .ok (.ifCond .lt 77, 3) := by decide +kernel
theorem dX10_findFewest_121 : decode cX10_findFewest 121 = .ok (.iload 7, 2) := by decide +kernel
theorem dX10_findFewest_123 : decode cX10_findFewest 123 = .ok (.ifCond .eq 72, 3) := by decide +kernel
theorem dX10_findFewest_126 : decode cX10_findFewest 126 = .ok (.iload 5, 2) := by decide +kernel
theorem dX10_findFewest_128 : decode cX10_findFewest 128 = .ok (.iload_n 3, 1) := by decide +kernel
theorem dX10_findFewest_129 : decode cX10_findFewest 129 = .ok (.iload 8, 2) := by decide +kernel
theorem dX10_findFewest_131 : decode cX10_findFewest 131 = .ok (.invokestatic 212, 3) := by decide +kernel
theorem dX10_findFewest_134 : decode cX10_findFewest 134 = .ok (.idiv, 1) := by decide +kernel
theorem dX10_findFewest_135 : decode cX10_findFewest 135 = .ok (.iload_n 3, 1) := by decide +kernel
theorem dX10_findFewest_136 : decode cX10_findFewest 136 = .ok (.irem, 1) := by decide +kernel
theorem dX10_findFewest_137 : decode cX10_findFewest 137 = .ok (.istore 9, 2) := by decide +kernel
theorem dX10_findFewest_139 : decode cX10_findFewest 139 = .ok (.bipush 100, 2) := by decide +kernel
theorem dX10_findFewest_141 : decode cX10_findFewest 141 = .ok (.iload 6, 2) := by decide +kernel
theorem dX10_findFewest_143 : decode cX10_findFewest 143 = .ok (.imul, 1) := by decide +kernel
theorem dX10_findFewest_144 : decode cX10_findFewest 144 = .ok (.bipush 10, 2) := by decide +kernel
theorem dX10_findFewest_146 : decode cX10_findFewest 146 = .ok (.iload 9, 2) := by decide +kernel
theorem dX10_findFewest_148 : decode cX10_findFewest 148 = .ok (.aload_n 0, 1) := by decide +kernel
theorem dX10_findFewest_149 : decode cX10_findFewest 149 = .ok (.getfield 75, 3) := by decide +kernel
theorem dX10_findFewest_152 : decode cX10_findFewest 152 = .ok (.idiv, 1) := by decide +kernel
theorem dX10_findFewest_153 : decode cX10_findFewest 153 = .ok (.iconst 1, 1) := by decide +kernel
theorem dX10_findFewest_154 : decode cX10_findFewest 154 = .ok (.iadd, 1) := by decide +kernel
theorem dX10_findFewest_155 : decode cX10_findFewest 155 = .ok (.imul, 1) := by decide +kernel
theorem dX10_findFewest_156 : decode cX10_findFewest 156 = .ok (.iadd, 1) := by decide +kernel
theorem dX10_findFewest_157 : decode cX10_findFewest 157 = .ok (.iload 9, 2) := by decide +kernel
theorem dX10_findFewest_159 : decode cX10_findFewest 159 = .ok (.aload_n 0, 1) := by decide +kernel
theorem dX10_findFewest_160 : decode cX10_findFewest 160 = .ok (.getfield 75, 3) := by decide +kernel
theorem dX10_findFewest_163 : decode cX10_findFewest 163 = .ok (.irem, 1) := by decide +kernel
theorem dX10_findFewest_164 : decode cX10_findFewest 164 = .ok (.iadd, 1) := by decide +kernel
theorem dX10_findFewest_165 : decode cX10_findFewest 165 = .ok (.iconst 1, 1) := by decide +kernel
theorem dX10_findFewest_166 : decode cX10_findFewest 166 = .ok (.iadd, 1) := by decide +kernel
theorem dX10_findFewest_167 : decode cX10_findFewest 167 = .ok (.istore 6, 2) := by decide +kernel
theorem dX10_findFewest_169 : decode cX10_findFewest 169 = .ok (.aload_n 0, 1) := by decide +kernel
theorem dX10_findFewest_170 : decode cX10_findFewest 170 = .ok (.iload 9, 2) := by decide +kernel
theorem dX10_findFewest_172 : decode cX10_findFewest 172 = .ok (.aload_n 0, 1) := by decide +kernel
theorem dX10_findFewest_173 : decode cX10_findFewest 173 = .ok (.getfield 75, 3) := by decide +kernel
theorem dX10_findFewest_176 : decode cX10_findFewest 176 = .ok (.idiv, 1) := by decide +kernel
theorem dX10_findFewest_177 : decode cX10_findFewest 177 = .ok (.iload 9, 2) := by decide +kernel
theorem dX10_findFewest_179 : decode cX10_findFewest 179 = .ok (.aload_n 0, 1) := by decide +kernel
theorem dX10_findFewest_180 : decode cX10_findFewest 180 = .ok (.getfield 75, 3) := by decide +kernel
theorem dX10_findFewest_183 : decode cX10_findFewest 183 = .ok (.irem, 1) := by decide +kernel
theorem dX10_findFewest_184 : decode cX10_findFewest 184 = .ok (.invokevirtual 215, 3) := by decide +kernel
theorem dX10_findFewest_187 : decode cX10_findFewest 187 = .ok (.istore 7, 2) := by decide +kernel
theorem dX10_findFewest_189 : decode cX10_findFewest 189 = .ok (.iinc 8 (-1), 3) := by decide +kernel
theorem dX10_findFewest_192 : decode cX10_findFewest 192 = .ok (.goto (-76), 3) := by decide +kernel
theorem dX10_findFewest_195 : decode cX10_findFewest 195 = .ok (.iload 7, 2) := by decide +kernel
theorem dX10_findFewest_197 : decode cX10_findFewest 197 = .ok (.ifCond .eq 29, 3) := by decide +kernel
theorem dX10_findFewest_200 : decode cX10_findFewest 200 = .ok (.aload_n 0, 1) := by decide +kernel
theorem dX10_findFewest_201 : decode cX10_findFewest 201 = .ok (.getfield 34, 3) := by decide +kernel
theorem dX10_findFewest_204 : decode cX10_findFewest 204 = .ok (.bipush 12, 2) := by decide +kernel
theorem dX10_findFewest_206 : decode cX10_findFewest 206 = .ok (.iaload, 1) := by decide +kernel
theorem dX10_findFewest_207 : decode cX10_findFewest 207 = .ok (.iload_n 1, 1) := by decide +kernel
theorem dX10_findFewest_208 : decode cX10_findFewest 208 = .ok (.invokestatic 144, 3) := by decide +kernel
theorem dX10_findFewest_211 : decode cX10_findFewest 211 = .ok (.ifCond .eq 15, 3) := by decide +kernel
theorem dX10_findFewest_214 : decode cX10_findFewest 214 = .ok (.aload_n 0, 1) := by decide +kernel
theorem dX10_findFewest_215 : decode cX10_findFewest 215 = .ok (.iload 4, 2) := by decide +kernel
theorem dX10_findFewest_217 : decode cX10_findFewest 217 = .ok (.putfield 206, 3) := by decide +kernel
theorem dX10_findFewest_220 : decode cX10_findFewest 220 = .ok (.aload_n 0, 1) := by decide +kernel
theorem dX10_findFewest_221 : decode cX10_findFewest 221 = .ok (.iload 6, 2) := by decide +kernel
theorem dX10_findFewest_223 : decode cX10_findFewest 223 = .ok (.putfield 209, 3) := by decide +kernel
theorem dX10_findFewest_226 : decode cX10_findFewest 226 = .ok (.iinc 5 1, 3) := by decide +kernel
theorem dX10_findFewest_229 : decode cX10_findFewest 229 = .ok (.goto (-158), 3) := by decide +kernel
theorem dX10_findFewest_232 : decode cX10_findFewest 232 = .ok (.iinc 4 1, 3) := by decide +kernel
theorem dX10_findFewest_235 : decode cX10_findFewest 235 = .ok (.goto (-182), 3) := by decide +kernel
theorem dX10_findFewest_238 : decode cX10_findFewest 238 = .ok (.return_, 1) := by decide +kernel
theorem dX10_fewest_0 : decode cX10_fewest 0 = .ok (.aload_n 0, 1) := by decide +kernel
theorem dX10_fewest_1 : decode cX10_fewest 1 = .ok (.iconst 0, 1) := by decide +kernel
theorem dX10_fewest_2 : decode cX10_fewest 2 = .ok (.putfield 71, 3) := by decide +kernel
theorem dX10_fewest_5 : decode cX10_fewest 5 = .ok (.aload_n 0, 1) := by decide +kernel
theorem dX10_fewest_6 : decode cX10_fewest 6 = .ok (.iload_n 1, 1) := by decide +kernel
theorem dX10_fewest_7 : decode cX10_fewest 7 = .ok (.invokevirtual 179, 3) := by decide +kernel
theorem dX10_fewest_10 : decode cX10_fewest 10 = .ok (.ifCond .eq 5, 3) := by decide +kernel
theorem dX10_fewest_13 : decode cX10_fewest 13 = .ok (.iconst (-1), 1) := by decide +kernel
theorem dX10_fewest_14 : decode cX10_fewest 14 = .ok (.ireturn, 1) := by decide +kernel
theorem dX10_fewest_15 : decode cX10_fewest 15 = .ok (.aload_n 0, 1) := by decide +kernel
theorem dX10_fewest_16 : decode cX10_fewest 16 = .ok (.iload_n 1, 1) := by decide +kernel
theorem dX10_fewest_17 : decode cX10_fewest 17 = .ok (.invokevirtual 218, 3) := by decide +kernel
theorem dX10_fewest_20 : decode cX10_fewest 20 = .ok (.iload_n 2, 1) := by decide +kernel
theorem dX10_fewest_21 : decode cX10_fewest 21 = .ok (.ifCond .eq 10, 3) := by decide +kernel
theorem dX10_fewest_24 : decode cX10_fewest 24 = .ok (.aload_n 0, 1) := by decide +kernel
theorem dX10_fewest_25 : decode cX10_fewest 25 = .ok (.getfield 209, 3) := by decide +kernel
theorem dX10_fewest_28 : decode cX10_fewest 28 = .ok (.goto 7, 3) := by decide +kernel
theorem dX10_fewest_31 : decode cX10_fewest 31 = .ok (.aload_n 0, 1) := by decide +kernel
theorem dX10_fewest_32 : decode cX10_fewest 32 = .ok (.getfield 206, 3) := by decide +kernel
theorem dX10_fewest_35 : decode cX10_fewest 35 = .ok (.ireturn, 1) := by decide +kernel
theorem dX10_winds_0 : decode cX10_winds 0 = .ok (.aload_n 0, 1) := by decide +kernel
theorem dX10_winds_1 : decode cX10_winds 1 = .ok (.iconst 0, 1) := by decide +kernel
theorem dX10_winds_2 : decode cX10_winds 2 = .ok (.putfield 71, 3) := by decide +kernel
theorem dX10_winds_5 : decode cX10_winds 5 = .ok (.aload_n 0, 1) := by decide +kernel
theorem dX10_winds_6 : decode cX10_winds 6 = .ok (.iload_n 1, 1) := by decide +kernel
theorem dX10_winds_7 : decode cX10_winds 7 = .ok (.invokevirtual 183, 3) := by decide +kernel
theorem dX10_winds_10 : decode cX10_winds 10 = .ok (.ifCond .ne 11, 3) := by decide +kernel
theorem dX10_winds_13 : decode cX10_winds 13 = .ok (.aload_n 0, 1) := by decide +kernel
theorem dX10_winds_14 : decode cX10_winds 14 = .ok (.iload_n 2, 1) := by decide +kernel
theorem dX10_winds_15 : decode cX10_winds 15 = .ok (.invokevirtual 179, 3) := by decide +kernel
theorem dX10_winds_18 : decode cX10_winds 18 = .ok (.ifCond .eq 5, 3) := by decide +kernel
theorem dX10_winds_21 : decode cX10_winds 21 = .ok (.iconst (-1), 1) := by decide +kernel
theorem dX10_winds_22 : decode cX10_winds 22 = .ok (.ireturn, 1) := by decide +kernel
theorem dX10_winds_23 : decode cX10_winds 23 = .ok (.iconst 0, 1) := by decide +kernel
theorem dX10_winds_24 : decode cX10_winds 24 = .ok (.istore_n 3, 1) := by decide +kernel
theorem dX10_winds_25 : decode cX10_winds 25 = .ok (.iconst 0, 1) := by decide +kernel
theorem dX10_winds_26 : decode cX10_winds 26 = .ok (.istore 4, 2) := by decide +kernel
theorem dX10_winds_28 : decode cX10_winds 28 = .ok (.iload 4, 2) := by decide +kernel
theorem dX10_winds_30 : decode cX10_winds 30 = .ok (.iconst 3, 1) := by decide +kernel
theorem dX10_winds_31 : decode cX10_winds 31 = .ok (.if_icmp .ge 66, 3) := by decide +kernel
theorem dX10_winds_34 : decode cX10_winds 34 = .ok (.aload_n 0, 1) := by decide +kernel
theorem dX10_winds_35 : decode cX10_winds 35 = .ok (.getfield 13, 3) := by decide +kernel
theorem dX10_winds_38 : decode cX10_winds 38 = .ok (.iconst 3, 1) := by decide +kernel
theorem dX10_winds_39 : decode cX10_winds 39 = .ok (.iload_n 2, 1) := by decide +kernel
theorem dX10_winds_40 : decode cX10_winds 40 = .ok (.imul, 1) := by decide +kernel
theorem dX10_winds_41 : decode cX10_winds 41 = .ok (.iaload, 1) := by decide +kernel
theorem dX10_winds_42 : decode cX10_winds 42 = .ok (.aload_n 0, 1) := by decide +kernel
theorem dX10_winds_43 : decode cX10_winds 43 = .ok (.getfield 16, 3) := by decide +kernel
theorem dX10_winds_46 : decode cX10_winds 46 = .ok (.iconst 3, 1) := by decide +kernel
theorem dX10_winds_47 : decode cX10_winds 47 = .ok (.iload_n 1, 1) := by decide +kernel
theorem dX10_winds_48 : decode cX10_winds 48 = .ok (.imul, 1) := by decide +kernel
theorem dX10_winds_49 : decode cX10_winds 49 = .ok (.iconst 2, 1) := by decide +kernel
theorem dX10_winds_50 : decode cX10_winds 50 = .ok (.iadd, 1) := by decide +kernel
theorem dX10_winds_51 : decode cX10_winds 51 = .ok (.iaload, 1) := by decide +kernel
theorem dX10_winds_52 : decode cX10_winds 52 = .ok (.iconst 1, 1) := by decide +kernel
theorem dX10_winds_53 : decode cX10_winds 53 = .ok (.if_icmp .ne 7, 3) := by decide +kernel
theorem dX10_winds_56 : decode cX10_winds 56 = .ok (.iconst 0, 1) := by decide +kernel
theorem dX10_winds_57 : decode cX10_winds 57 = .ok (.goto 7, 3) := by decide +kernel
theorem dX10_winds_60 : decode cX10_winds 60 = .ok (.iload 4, 2) := by decide +kernel
theorem dX10_winds_62 : decode cX10_winds 62 = .ok (.iconst 1, 1) := by decide +kernel
theorem dX10_winds_63 : decode cX10_winds 63 = .ok (.isub, 1) := by decide +kernel
theorem dX10_winds_64 : decode cX10_winds 64 = .ok (.isub, 1) := by decide +kernel
theorem dX10_winds_65 : decode cX10_winds 65 = .ok (.istore 5, 2) := by decide +kernel
theorem dX10_winds_67 : decode cX10_winds 67 = .ok (.iload_n 3, 1) := by decide +kernel
theorem dX10_winds_68 : decode cX10_winds 68 = .ok (.iload 5, 2) := by decide +kernel
theorem dX10_winds_70 : decode cX10_winds 70 = .ok (.i2l, 1) := by decide +kernel
theorem dX10_winds_71 : decode cX10_winds 71 = .ok (.lconst 0, 1) := by decide +kernel
theorem dX10_winds_72 : decode cX10_winds 72 = .ok (.ldc2_w 93, 3) := by decide +kernel
theorem dX10_winds_75 : decode cX10_winds 75 = .ok (.invokestatic 78, 3) := by decide +kernel
theorem dX10_winds_78 : decode cX10_winds 78 = .ok (.ifCond .eq 10, 3) := by decide +kernel
theorem dX10_winds_81 : decode cX10_winds 81 = .ok (.iconst 1, 1) := by decide +kernel
theorem dX10_winds_82 : decode cX10_winds 82 = .ok (.iload 4, 2) := by decide +kernel
theorem dX10_winds_84 : decode cX10_winds 84 = .ok (.ishl, 1) := by decide +kernel
theorem dX10_winds_85 : decode cX10_winds 85 = .ok (.goto 4, 3) := by decide +kernel
theorem dX10_winds_88 : decode cX10_winds 88 = .ok (.iconst 0, 1) := by decide +kernel
theorem dX10_winds_89 : decode cX10_winds 89 = .ok (.ior, 1) := by decide +kernel
theorem dX10_winds_90 : decode cX10_winds 90 = .ok (.istore_n 3, 1) := by decide +kernel
theorem dX10_winds_91 : decode cX10_winds 91 = .ok (.iinc 4 1, 3) := by decide +kernel
theorem dX10_winds_94 : decode cX10_winds 94 = .ok (.goto (-66), 3) := by decide +kernel
theorem dX10_winds_97 : decode cX10_winds 97 = .ok (.aload_n 0, 1) := by decide +kernel
theorem dX10_winds_98 : decode cX10_winds 98 = .ok (.getfield 31, 3) := by decide +kernel
theorem dX10_winds_101 : decode cX10_winds 101 = .ok (.bipush 12, 2) := by decide +kernel
theorem dX10_winds_103 : decode cX10_winds 103 = .ok (.iaload, 1) := by decide +kernel
theorem dX10_winds_104 : decode cX10_winds 104 = .ok (.iload_n 2, 1) := by decide +kernel
theorem dX10_winds_105 : decode cX10_winds 105 = .ok (.invokestatic 144, 3) := by decide +kernel
theorem dX10_winds_108 : decode cX10_winds 108 = .ok (.ifCond .eq 7, 3) := by decide +kernel
theorem dX10_winds_111 : decode cX10_winds 111 = .ok (.iconst 0, 1) := by decide +kernel
theorem dX10_winds_112 : decode cX10_winds 112 = .ok (.goto 4, 3) := by decide +kernel
theorem dX10_winds_115 : decode cX10_winds 115 = .ok (.iload_n 3, 1) := by decide +kernel
theorem dX10_winds_116 : decode cX10_winds 116 = .ok (.ireturn, 1) := by decide +kernel
theorem dX10_findMatch_0 : decode cX10_findMatch 0 = .ok (.aload_n 0, 1) := by decide +kernel
theorem dX10_findMatch_1 : decode cX10_findMatch 1 = .ok (.bipush (-9), 2) := by decide +kernel
theorem dX10_findMatch_3 : decode cX10_findMatch 3 = .ok (.putfield 222, 3) := by decide +kernel
theorem dX10_findMatch_6 : decode cX10_findMatch 6 = .ok (.aload_n 0, 1) := by decide +kernel
theorem dX10_findMatch_7 : decode cX10_findMatch 7 = .ok (.bipush (-9), 2) := by decide +kernel
theorem dX10_findMatch_9 : decode cX10_findMatch 9 = .ok (.putfield 225, 3) := by decide +kernel
theorem dX10_findMatch_12 : decode cX10_findMatch 12 = .ok (.aload_n 0, 1) := by decide +kernel
theorem dX10_findMatch_13 : decode cX10_findMatch 13 = .ok (.getfield 75, 3) := by decide +kernel
theorem dX10_findMatch_16 : decode cX10_findMatch 16 = .ok (.iconst 1, 1) := by decide +kernel
theorem dX10_findMatch_17 : decode cX10_findMatch 17 = .ok (.iadd, 1) := by decide +kernel
theorem dX10_findMatch_18 : decode cX10_findMatch 18 = .ok (.istore_n 2, 1) := by decide +kernel
theorem dX10_findMatch_19 : decode cX10_findMatch 19 = .ok (.iconst 0, 1) := by decide +kernel
theorem dX10_findMatch_20 : decode cX10_findMatch 20 = .ok (.istore_n 3, 1) := by decide +kernel
theorem dX10_findMatch_21 : decode cX10_findMatch 21 = .ok (.iload_n 3, 1) := by decide +kernel
theorem dX10_findMatch_22 : decode cX10_findMatch 22 = .ok (.iload_n 2, 1) := by decide +kernel
theorem dX10_findMatch_23 : decode cX10_findMatch 23 = .ok (.aload_n 0, 1) := by decide +kernel
theorem dX10_findMatch_24 : decode cX10_findMatch 24 = .ok (.getfield 82, 3) := by decide +kernel
theorem dX10_findMatch_27 : decode cX10_findMatch 27 = .ok (.invokestatic 212, 3) := by decide +kernel
theorem dX10_findMatch_30 : decode cX10_findMatch 30 = .ok (.if_icmp .ge 156, 3) := by decide +kernel
theorem dX10_findMatch_33 : decode cX10_findMatch 33 = .ok (.aload_n 0, 1) := by decide +kernel
theorem dX10_findMatch_34 : decode cX10_findMatch 34 = .ok (.getfield 31, 3) := by decide +kernel
theorem dX10_findMatch_37 : decode cX10_findMatch 37 = .ok (.aload_n 0, 1) := by decide +kernel
theorem dX10_findMatch_38 : decode cX10_findMatch 38 = .ok (.getfield 34, 3) := by decide +kernel
theorem dX10_findMatch_41 : decode cX10_findMatch 41 = .ok (.bipush 15, 2) := by decide +kernel
theorem dX10_findMatch_43 : decode cX10_findMatch 43 = .ok (.invokestatic 137, 3) := by decide +kernel
theorem dX10_findMatch_46 : decode cX10_findMatch 46 = .ok (.iconst 1, 1) := by decide +kernel
theorem dX10_findMatch_47 : decode cX10_findMatch 47 = .ok (.istore 4, 2) := by decide +kernel
theorem dX10_findMatch_49 : decode cX10_findMatch 49 = .ok (.iconst 1, 1) := by decide +kernel
theorem dX10_findMatch_50 : decode cX10_findMatch 50 = .ok (.istore 5, 2) := by decide +kernel
theorem dX10_findMatch_52 : decode cX10_findMatch 52 = .ok (.iconst 0, 1) := by decide +kernel
theorem dX10_findMatch_53 : decode cX10_findMatch 53 = .ok (.istore 6, 2) := by decide +kernel
theorem dX10_findMatch_55 : decode cX10_findMatch 55 = .ok (.iload 6, 2) := by decide +kernel
theorem dX10_findMatch_57 : decode cX10_findMatch 57 = .ok (.aload_n 0, 1) := by decide +kernel
theorem dX10_findMatch_58 : decode cX10_findMatch 58 = .ok (.getfield 82, 3) := by decide +kernel
theorem dX10_findMatch_61 : decode cX10_findMatch 61 = .ok (.if_icmp .ge 77, 3) := by decide +kernel
theorem dX10_findMatch_64 : decode cX10_findMatch 64 = .ok (.iload 5, 2) := by decide +kernel
theorem dX10_findMatch_66 : decode cX10_findMatch 66 = .ok (.ifCond .eq 72, 3) := by decide +kernel
theorem dX10_findMatch_69 : decode cX10_findMatch 69 = .ok (.iload_n 3, 1) := by decide +kernel
theorem dX10_findMatch_70 : decode cX10_findMatch 70 = .ok (.iload_n 2, 1) := by decide +kernel
theorem dX10_findMatch_71 : decode cX10_findMatch 71 = .ok (.aload_n 0, 1) := by decide +kernel
theorem dX10_findMatch_72 : decode cX10_findMatch 72 = .ok (.getfield 82, 3) := by decide +kernel
theorem dX10_findMatch_75 : decode cX10_findMatch 75 = .ok (.iconst 1, 1) := by decide +kernel
theorem dX10_findMatch_76 : decode cX10_findMatch 76 = .ok (.isub, 1) := by decide +kernel
theorem dX10_findMatch_77 : decode cX10_findMatch 77 = .ok (.iload 6, 2) := by decide +kernel
theorem dX10_findMatch_79 : decode cX10_findMatch 79 = .ok (.isub, 1) := by decide +kernel
theorem dX10_findMatch_80 : decode cX10_findMatch 80 = .ok (.invokestatic 212, 3) := by decide +kernel
theorem dX10_findMatch_83 : decode cX10_findMatch 83 = .ok (.idiv, 1) := by decide +kernel
theorem dX10_findMatch_84 : decode cX10_findMatch 84 = .ok (.iload_n 2, 1) := by decide +kernel
theorem dX10_findMatch_85 : decode cX10_findMatch 85 = .ok (.irem, 1) := by decide +kernel
theorem dX10_findMatch_86 : decode cX10_findMatch 86 = .ok (.istore 7, 2) := by decide +kernel
theorem dX10_findMatch_88 : decode cX10_findMatch 88 = .ok (.bipush 10, 2) := by decide +kernel
theorem dX10_findMatch_90 : decode cX10_findMatch 90 = .ok (.iload 4, 2) := by decide +kernel
theorem dX10_findMatch_92 : decode cX10_findMatch 92 = .ok (.imul, 1) := by decide +kernel
theorem dX10_findMatch_93 : decode cX10_findMatch 93 = .ok (.iload 7, 2) := by decide +kernel
theorem dX10_findMatch_95 : decode cX10_findMatch 95 = .ok (.iadd, 1) := by decide +kernel
theorem dX10_findMatch_96 : decode cX10_findMatch 96 = .ok (.istore 4, 2) := by decide +kernel
theorem dX10_findMatch_98 : decode cX10_findMatch 98 = .ok (.iload 7, 2) := by decide +kernel
theorem dX10_findMatch_100 : decode cX10_findMatch 100 = .ok (.ifCond .eq 25, 3) := by decide +kernel
theorem dX10_findMatch_103 : decode cX10_findMatch 103 = .ok (.iload_n 1, 1) := by decide +kernel
theorem dX10_findMatch_104 : decode cX10_findMatch 104 = .ok (.iload 6, 2) := by decide +kernel
theorem dX10_findMatch_106 : decode cX10_findMatch 106 = .ok (.invokestatic 144, 3) := by decide +kernel
theorem dX10_findMatch_109 : decode cX10_findMatch 109 = .ok (.ifCond .eq 20, 3) := by decide +kernel
theorem dX10_findMatch_112 : decode cX10_findMatch 112 = .ok (.aload_n 0, 1) := by decide +kernel
theorem dX10_findMatch_113 : decode cX10_findMatch 113 = .ok (.iload 6, 2) := by decide +kernel
theorem dX10_findMatch_115 : decode cX10_findMatch 115 = .ok (.iload 7, 2) := by decide +kernel
theorem dX10_findMatch_117 : decode cX10_findMatch 117 = .ok (.iconst 1, 1) := by decide +kernel
theorem dX10_findMatch_118 : decode cX10_findMatch 118 = .ok (.isub, 1) := by decide +kernel
theorem dX10_findMatch_119 : decode cX10_findMatch 119 = .ok (.invokevirtual 215, 3) := by decide +kernel
theorem dX10_findMatch_122 : decode cX10_findMatch 122 = .ok (.ifCond .eq 7, 3) := by decide +kernel
theorem dX10_findMatch_125 : decode cX10_findMatch 125 = .ok (.iconst 1, 1) := by decide +kernel
theorem dX10_findMatch_126 : decode cX10_findMatch 126 = .ok (.goto 4, 3) := by decide +kernel
theorem dX10_findMatch_129 : decode cX10_findMatch 129 = .ok (.iconst 0, 1) := by decide +kernel
theorem dX10_findMatch_130 : decode cX10_findMatch 130 = .ok (.istore 5, 2) := by decide +kernel
theorem dX10_findMatch_132 : decode cX10_findMatch 132 = .ok (.iinc 6 1, 3) := by decide +kernel
theorem dX10_findMatch_135 : decode cX10_findMatch 135 = .ok (.goto (-80), 3) := by decide +kernel
theorem dX10_findMatch_138 : decode cX10_findMatch 138 = .ok (.iload 5, 2) := by decide +kernel
theorem dX10_findMatch_140 : decode cX10_findMatch 140 = .ok (.ifCond .eq 40, 3) := by decide +kernel
theorem dX10_findMatch_143 : decode cX10_findMatch 143 = .ok (.aload_n 0, 1) := by decide +kernel
theorem dX10_findMatch_144 : decode cX10_findMatch 144 = .ok (.getfield 34, 3) := by decide +kernel
theorem dX10_findMatch_147 : decode cX10_findMatch 147 = .ok (.bipush 12, 2) := by decide +kernel
theorem dX10_findMatch_149 : decode cX10_findMatch 149 = .ok (.iaload, 1) := by decide +kernel
theorem dX10_findMatch_150 : decode cX10_findMatch 150 = .ok (.invokestatic 228, 3) := by decide +kernel
theorem dX10_findMatch_153 : decode cX10_findMatch 153 = .ok (.aload_n 0, 1) := by decide +kernel
theorem dX10_findMatch_154 : decode cX10_findMatch 154 = .ok (.getfield 222, 3) := by decide +kernel
theorem dX10_findMatch_157 : decode cX10_findMatch 157 = .ok (.if_icmp .le 23, 3) := by decide +kernel
theorem dX10_findMatch_160 : decode cX10_findMatch 160 = .ok (.aload_n 0, 1) := by decide +kernel
theorem dX10_findMatch_161 : decode cX10_findMatch 161 = .ok (.aload_n 0, 1) := by decide +kernel
theorem dX10_findMatch_162 : decode cX10_findMatch 162 = .ok (.getfield 34, 3) := by decide +kernel
theorem dX10_findMatch_165 : decode cX10_findMatch 165 = .ok (.bipush 12, 2) := by decide +kernel
theorem dX10_findMatch_167 : decode cX10_findMatch 167 = .ok (.iaload, 1) := by decide +kernel
theorem dX10_findMatch_168 : decode cX10_findMatch 168 = .ok (.invokestatic 228, 3) := by decide +kernel
theorem dX10_findMatch_171 : decode cX10_findMatch 171 = .ok (.putfield 222, 3) := by decide +kernel
theorem dX10_findMatch_174 : decode cX10_findMatch 174 = .ok (.aload_n 0, 1) := by decide +kernel
theorem dX10_findMatch_175 : decode cX10_findMatch 175 = .ok (.iload 4, 2) := by decide +kernel
theorem dX10_findMatch_177 : decode cX10_findMatch 177 = .ok (.putfield 225, 3) := by decide +kernel
theorem dX10_findMatch_180 : decode cX10_findMatch 180 = .ok (.iinc 3 1, 3) := by decide +kernel
theorem dX10_findMatch_183 : decode cX10_findMatch 183 = .ok (.goto (-162), 3) := by decide +kernel
theorem dX10_findMatch_186 : decode cX10_findMatch 186 = .ok (.return_, 1) := by decide +kernel
theorem dX10_match_0 : decode cX10_match 0 = .ok (.aload_n 0, 1) := by decide +kernel
theorem dX10_match_1 : decode cX10_match 1 = .ok (.iconst 0, 1) := by decide +kernel
theorem dX10_match_2 : decode cX10_match 2 = .ok (.putfield 71, 3) := by decide +kernel
theorem dX10_match_5 : decode cX10_match 5 = .ok (.aload_n 0, 1) := by decide +kernel
theorem dX10_match_6 : decode cX10_match 6 = .ok (.bipush 15, 2) := by decide +kernel
theorem dX10_match_8 : decode cX10_match 8 = .ok (.invokevirtual 231, 3) := by decide +kernel
theorem dX10_match_11 : decode cX10_match 11 = .ok (.iload_n 1, 1) := by decide +kernel
theorem dX10_match_12 : decode cX10_match 12 = .ok (.ifCond .eq 10, 3) := by decide +kernel
theorem dX10_match_15 : decode cX10_match 15 = .ok (.aload_n 0, 1) := by decide +kernel
theorem dX10_match_16 : decode cX10_match 16 = .ok (.getfield 225, 3) := by decide +kernel
theorem dX10_match_19 : decode cX10_match 19 = .ok (.goto 7, 3) := by decide +kernel
theorem dX10_match_22 : decode cX10_match 22 = .ok (.aload_n 0, 1) := by decide +kernel
theorem dX10_match_23 : decode cX10_match 23 = .ok (.getfield 222, 3) := by decide +kernel
theorem dX10_match_26 : decode cX10_match 26 = .ok (.ireturn, 1) := by decide +kernel
theorem dX10_holdsUp_0 : decode cX10_holdsUp 0 = .ok (.iconst 1, 1) := by decide +kernel
theorem dX10_holdsUp_1 : decode cX10_holdsUp 1 = .ok (.istore_n 2, 1) := by decide +kernel
theorem dX10_holdsUp_2 : decode cX10_holdsUp 2 = .ok (.iconst 0, 1) := by decide +kernel
theorem dX10_holdsUp_3 : decode cX10_holdsUp 3 = .ok (.istore_n 3, 1) := by decide +kernel
theorem dX10_holdsUp_4 : decode cX10_holdsUp 4 = .ok (.iload_n 3, 1) := by decide +kernel
theorem dX10_holdsUp_5 : decode cX10_holdsUp 5 = .ok (.aload_n 0, 1) := by decide +kernel
theorem dX10_holdsUp_6 : decode cX10_holdsUp 6 = .ok (.getfield 82, 3) := by decide +kernel
theorem dX10_holdsUp_9 : decode cX10_holdsUp 9 = .ok (.if_icmp .ge 72, 3) := by decide +kernel
theorem dX10_holdsUp_12 : decode cX10_holdsUp 12 = .ok (.iconst 0, 1) := by decide +kernel
theorem dX10_holdsUp_13 : decode cX10_holdsUp 13 = .ok (.istore 4, 2) := by decide +kernel
theorem dX10_holdsUp_15 : decode cX10_holdsUp 15 = .ok (.iload 4, 2) := by decide +kernel
theorem dX10_holdsUp_17 : decode cX10_holdsUp 17 = .ok (.aload_n 0, 1) := by decide +kernel
theorem dX10_holdsUp_18 : decode cX10_holdsUp 18 = .ok (.getfield 75, 3) := by decide +kernel
theorem dX10_holdsUp_21 : decode cX10_holdsUp 21 = .ok (.if_icmp .ge 54, 3) := by decide +kernel
theorem dX10_holdsUp_24 : decode cX10_holdsUp 24 = .ok (.aload_n 0, 1) := by decide +kernel
theorem dX10_holdsUp_25 : decode cX10_holdsUp 25 = .ok (.getfield 37, 3) := by decide +kernel
theorem dX10_holdsUp_28 : decode cX10_holdsUp 28 = .ok (.aload_n 0, 1) := by decide +kernel
theorem dX10_holdsUp_29 : decode cX10_holdsUp 29 = .ok (.getfield 34, 3) := by decide +kernel
theorem dX10_holdsUp_32 : decode cX10_holdsUp 32 = .ok (.bipush 15, 2) := by decide +kernel
theorem dX10_holdsUp_34 : decode cX10_holdsUp 34 = .ok (.invokestatic 137, 3) := by decide +kernel
theorem dX10_holdsUp_37 : decode cX10_holdsUp 37 = .ok (.aload_n 0, 1) := by decide +kernel
theorem dX10_holdsUp_38 : decode cX10_holdsUp 38 = .ok (.iload_n 3, 1) := by decide +kernel
theorem dX10_holdsUp_39 : decode cX10_holdsUp 39 = .ok (.iload 4, 2) := by decide +kernel
theorem dX10_holdsUp_41 : decode cX10_holdsUp 41 = .ok (.invokevirtual 215, 3) := by decide +kernel
theorem dX10_holdsUp_44 : decode cX10_holdsUp 44 = .ok (.pop, 1) := by decide +kernel
theorem dX10_holdsUp_45 : decode cX10_holdsUp 45 = .ok (.iload_n 2, 1) := by decide +kernel
theorem dX10_holdsUp_46 : decode cX10_holdsUp 46 = .ok (.ifCond .eq 21, 3) := by decide +kernel
theorem dX10_holdsUp_49 : decode cX10_holdsUp 49 = .ok (.aload_n 0, 1) := by decide +kernel
theorem dX10_holdsUp_50 : decode cX10_holdsUp 50 = .ok (.getfield 34, 3) := by decide +kernel
theorem dX10_holdsUp_53 : decode cX10_holdsUp 53 = .ok (.bipush 12, 2) := by decide +kernel
theorem dX10_holdsUp_55 : decode cX10_holdsUp 55 = .ok (.iaload, 1) := by decide +kernel
theorem dX10_holdsUp_56 : decode cX10_holdsUp 56 = .ok (.iload_n 1, 1) := by decide +kernel
theorem dX10_holdsUp_57 : decode cX10_holdsUp 57 = .ok (.invokestatic 144, 3) := by decide +kernel
theorem dX10_holdsUp_60 : decode cX10_holdsUp 60 = .ok (.ifCond .ne 7, 3) := by decide +kernel
theorem dX10_holdsUp_63 : decode cX10_holdsUp 63 = .ok (.iconst 1, 1) := by decide +kernel
theorem dX10_holdsUp_64 : decode cX10_holdsUp 64 = .ok (.goto 4, 3) := by decide +kernel
theorem dX10_holdsUp_67 : decode cX10_holdsUp 67 = .ok (.iconst 0, 1) := by decide +kernel
theorem dX10_holdsUp_68 : decode cX10_holdsUp 68 = .ok (.istore_n 2, 1) := by decide +kernel
theorem dX10_holdsUp_69 : decode cX10_holdsUp 69 = .ok (.iinc 4 1, 3) := by decide +kernel
theorem dX10_holdsUp_72 : decode cX10_holdsUp 72 = .ok (.goto (-57), 3) := by decide +kernel
theorem dX10_holdsUp_75 : decode cX10_holdsUp 75 = .ok (.iinc 3 1, 3) := by decide +kernel
theorem dX10_holdsUp_78 : decode cX10_holdsUp 78 = .ok (.goto (-74), 3) := by decide +kernel
theorem dX10_holdsUp_81 : decode cX10_holdsUp 81 = .ok (.iload_n 2, 1) := by decide +kernel
theorem dX10_holdsUp_82 : decode cX10_holdsUp 82 = .ok (.ireturn, 1) := by decide +kernel
theorem dX10_nails_0 : decode cX10_nails 0 = .ok (.aload_n 0, 1) := by decide +kernel
theorem dX10_nails_1 : decode cX10_nails 1 = .ok (.iconst 0, 1) := by decide +kernel
theorem dX10_nails_2 : decode cX10_nails 2 = .ok (.putfield 71, 3) := by decide +kernel
theorem dX10_nails_5 : decode cX10_nails 5 = .ok (.aload_n 0, 1) := by decide +kernel
theorem dX10_nails_6 : decode cX10_nails 6 = .ok (.iload_n 1, 1) := by decide +kernel
theorem dX10_nails_7 : decode cX10_nails 7 = .ok (.invokevirtual 179, 3) := by decide +kernel
theorem dX10_nails_10 : decode cX10_nails 10 = .ok (.ifCond .eq 5, 3) := by decide +kernel
theorem dX10_nails_13 : decode cX10_nails 13 = .ok (.iconst (-1), 1) := by decide +kernel
theorem dX10_nails_14 : decode cX10_nails 14 = .ok (.ireturn, 1) := by decide +kernel
theorem dX10_nails_15 : decode cX10_nails 15 = .ok (.iconst 1, 1) := by decide +kernel
theorem dX10_nails_16 : decode cX10_nails 16 = .ok (.aload_n 0, 1) := by decide +kernel
theorem dX10_nails_17 : decode cX10_nails 17 = .ok (.getfield 75, 3) := by decide +kernel
theorem dX10_nails_20 : decode cX10_nails 20 = .ok (.ishl, 1) := by decide +kernel
theorem dX10_nails_21 : decode cX10_nails 21 = .ok (.iconst 1, 1) := by decide +kernel
theorem dX10_nails_22 : decode cX10_nails 22 = .ok (.isub, 1) := by decide +kernel
theorem dX10_nails_23 : decode cX10_nails 23 = .ok (.aload_n 0, 1) := by decide +kernel
theorem dX10_nails_24 : decode cX10_nails 24 = .ok (.getfield 31, 3) := by decide +kernel
theorem dX10_nails_27 : decode cX10_nails 27 = .ok (.bipush 12, 2) := by decide +kernel
theorem dX10_nails_29 : decode cX10_nails 29 = .ok (.iaload, 1) := by decide +kernel
theorem dX10_nails_30 : decode cX10_nails 30 = .ok (.iconst (-1), 1) := by decide +kernel
theorem dX10_nails_31 : decode cX10_nails 31 = .ok (.ixor, 1) := by decide +kernel
theorem dX10_nails_32 : decode cX10_nails 32 = .ok (.iand, 1) := by decide +kernel
theorem dX10_nails_33 : decode cX10_nails 33 = .ok (.aload_n 0, 1) := by decide +kernel
theorem dX10_nails_34 : decode cX10_nails 34 = .ok (.getfield 31, 3) := by decide +kernel
theorem dX10_nails_37 : decode cX10_nails 37 = .ok (.bipush 11, 2) := by decide +kernel
theorem dX10_nails_39 : decode cX10_nails 39 = .ok (.iaload, 1) := by decide +kernel
theorem dX10_nails_40 : decode cX10_nails 40 = .ok (.iconst (-1), 1) := by decide +kernel
theorem dX10_nails_41 : decode cX10_nails 41 = .ok (.ixor, 1) := by decide +kernel
theorem dX10_nails_42 : decode cX10_nails 42 = .ok (.iand, 1) := by decide +kernel
theorem dX10_nails_43 : decode cX10_nails 43 = .ok (.istore_n 2, 1) := by decide +kernel
theorem dX10_nails_44 : decode cX10_nails 44 = .ok (.bipush (-9), 2) := by decide +kernel
theorem dX10_nails_46 : decode cX10_nails 46 = .ok (.istore_n 3, 1) := by decide +kernel
theorem dX10_nails_47 : decode cX10_nails 47 = .ok (.iconst 0, 1) := by decide +kernel
theorem dX10_nails_48 : decode cX10_nails 48 = .ok (.istore 4, 2) := by decide +kernel
theorem dX10_nails_50 : decode cX10_nails 50 = .ok (.iload 4, 2) := by decide +kernel
theorem dX10_nails_52 : decode cX10_nails 52 = .ok (.iconst 1, 1) := by decide +kernel
theorem dX10_nails_53 : decode cX10_nails 53 = .ok (.aload_n 0, 1) := by decide +kernel
theorem dX10_nails_54 : decode cX10_nails 54 = .ok (.getfield 75, 3) := by decide +kernel
theorem dX10_nails_57 : decode cX10_nails 57 = .ok (.ishl, 1) := by decide +kernel
theorem dX10_nails_58 : decode cX10_nails 58 = .ok (.if_icmp .ge 90, 3) := by decide +kernel
theorem dX10_nails_61 : decode cX10_nails 61 = .ok (.aload_n 0, 1) := by decide +kernel
theorem dX10_nails_62 : decode cX10_nails 62 = .ok (.getfield 31, 3) := by decide +kernel
theorem dX10_nails_65 : decode cX10_nails 65 = .ok (.bipush 12, 2) := by decide +kernel
theorem dX10_nails_67 : decode cX10_nails 67 = .ok (.iaload, 1) := by decide +kernel
theorem dX10_nails_68 : decode cX10_nails 68 = .ok (.iload_n 1, 1) := by decide +kernel
theorem dX10_nails_69 : decode cX10_nails 69 = .ok (.invokestatic 144, 3) := by decide +kernel
theorem dX10_nails_72 : decode cX10_nails 72 = .ok (.ifCond .ne 76, 3) := by decide +kernel
theorem dX10_nails_75 : decode cX10_nails 75 = .ok (.iload 4, 2) := by decide +kernel
theorem dX10_nails_77 : decode cX10_nails 77 = .ok (.iload_n 2, 1) := by decide +kernel
theorem dX10_nails_78 : decode cX10_nails 78 = .ok (.iconst (-1), 1) := by decide +kernel
theorem dX10_nails_79 : decode cX10_nails 79 = .ok (.ixor, 1) := by decide +kernel
theorem dX10_nails_80 : decode cX10_nails 80 = .ok (.iand, 1) := by decide +kernel
theorem dX10_nails_81 : decode cX10_nails 81 = .ok (.ifCond .ne 61, 3) := by decide +kernel
theorem dX10_nails_84 : decode cX10_nails 84 = .ok (.iload_n 3, 1) := by decide +kernel
theorem dX10_nails_85 : decode cX10_nails 85 = .ok (.bipush (-9), 2) := by decide +kernel
theorem dX10_nails_87 : decode cX10_nails 87 = .ok (.if_icmp .eq 15, 3) := by decide +kernel
theorem dX10_nails_90 : decode cX10_nails 90 = .ok (.iload 4, 2) := by decide +kernel
theorem dX10_nails_92 : decode cX10_nails 92 = .ok (.invokestatic 228, 3) := by decide +kernel
theorem dX10_nails_95 : decode cX10_nails 95 = .ok (.iload_n 3, 1) := by decide +kernel
theorem dX10_nails_96 : decode cX10_nails 96 = .ok (.invokestatic 228, 3) := by decide +kernel
theorem dX10_nails_99 : decode cX10_nails 99 = .ok (.if_icmp .ge 43, 3) := by decide +kernel
theorem dX10_nails_102 : decode cX10_nails 102 = .ok (.aload_n 0, 1) := by decide +kernel
theorem dX10_nails_103 : decode cX10_nails 103 = .ok (.getfield 31, 3) := by decide +kernel
theorem dX10_nails_106 : decode cX10_nails 106 = .ok (.aload_n 0, 1) := by decide +kernel
theorem dX10_nails_107 : decode cX10_nails 107 = .ok (.getfield 37, 3) := by decide +kernel
theorem dX10_nails_110 : decode cX10_nails 110 = .ok (.bipush 15, 2) := by decide +kernel
theorem dX10_nails_112 : decode cX10_nails 112 = .ok (.invokestatic 137, 3) := by decide +kernel
theorem dX10_nails_115 : decode cX10_nails 115 = .ok (.aload_n 0, 1) := by decide +kernel
theorem dX10_nails_116 : decode cX10_nails 116 = .ok (.getfield 37, 3) := by decide +kernel
theorem dX10_nails_119 : decode cX10_nails 119 = .ok (.bipush 11, 2) := by decide +kernel
theorem dX10_nails_121 : decode cX10_nails 121 = .ok (.dup2, 1) := by decide +kernel
theorem dX10_nails_122 : decode cX10_nails 122 = .ok (.iaload, 1) := by decide +kernel
theorem dX10_nails_123 : decode cX10_nails 123 = .ok (.iload 4, 2) := by decide +kernel
theorem dX10_nails_125 : decode cX10_nails 125 = .ok (.ior, 1) := by decide +kernel
theorem dX10_nails_126 : decode cX10_nails 126 = .ok (.iastore, 1) := by decide +kernel
theorem dX10_nails_127 : decode cX10_nails 127 = .ok (.aload_n 0, 1) := by decide +kernel
theorem dX10_nails_128 : decode cX10_nails 128 = .ok (.iload_n 1, 1) := by decide +kernel
theorem dX10_nails_129 : decode cX10_nails 129 = .ok (.invokevirtual 234, 3) := by decide +kernel
theorem dX10_nails_132 : decode cX10_nails 132 = .ok (.ifCond .eq 8, 3) := by decide +kernel
theorem dX10_nails_135 : decode cX10_nails 135 = .ok (.iload 4, 2) := by decide +kernel
theorem dX10_nails_137 : decode cX10_nails 137 = .ok (.goto 4, 3) := by decide +kernel
theorem dX10_nails_140 : decode cX10_nails 140 = .ok (.iload_n 3, 1) := by decide +kernel
theorem dX10_nails_141 : decode cX10_nails 141 = .ok (.istore_n 3, 1) := by decide +kernel
theorem dX10_nails_142 : decode cX10_nails 142 = .ok (.iinc 4 1, 3) := by decide +kernel
theorem dX10_nails_145 : decode cX10_nails 145 = .ok (.goto (-95), 3) := by decide +kernel
theorem dX10_nails_148 : decode cX10_nails 148 = .ok (.iload_n 3, 1) := by decide +kernel
theorem dX10_nails_149 : decode cX10_nails 149 = .ok (.ireturn, 1) := by decide +kernel
theorem dX10_does_0 : decode cX10_does 0 = .ok (.iload_n 1, 1) := by decide +kernel
theorem dX10_does_1 : decode cX10_does 1 = .ok (.bipush 10, 2) := by decide +kernel
theorem dX10_does_3 : decode cX10_does 3 = .ok (.idiv, 1) := by decide +kernel
theorem dX10_does_4 : decode cX10_does 4 = .ok (.istore_n 2, 1) := by decide +kernel
theorem dX10_does_5 : decode cX10_does 5 = .ok (.iload_n 1, 1) := by decide +kernel
theorem dX10_does_6 : decode cX10_does 6 = .ok (.bipush 10, 2) := by decide +kernel
theorem dX10_does_8 : decode cX10_does 8 = .ok (.irem, 1) := by decide +kernel
theorem dX10_does_9 : decode cX10_does 9 = .ok (.istore_n 3, 1) := by decide +kernel
theorem dX10_does_10 : decode cX10_does 10 = .ok (.iload_n 1, 1) := by decide +kernel
theorem dX10_does_11 : decode cX10_does 11 = .ok (.bipush 60, 2) := by decide +kernel
theorem dX10_does_13 : decode cX10_does 13 = .ok (.if_icmp .ne 42, 3) := by decide +kernel
theorem dX10_does_16 : decode cX10_does 16 = .ok (.aload_n 0, 1) := by decide +kernel
theorem dX10_does_17 : decode cX10_does 17 = .ok (.getfield 34, 3) := by decide +kernel
theorem dX10_does_20 : decode cX10_does 20 = .ok (.bipush 14, 2) := by decide +kernel
theorem dX10_does_22 : decode cX10_does 22 = .ok (.iaload, 1) := by decide +kernel
theorem dX10_does_23 : decode cX10_does 23 = .ok (.bipush 9, 2) := by decide +kernel
theorem dX10_does_25 : decode cX10_does 25 = .ok (.if_icmp .ge 7, 3) := by decide +kernel
theorem dX10_does_28 : decode cX10_does 28 = .ok (.iconst 1, 1) := by decide +kernel
theorem dX10_does_29 : decode cX10_does 29 = .ok (.goto 4, 3) := by decide +kernel
theorem dX10_does_32 : decode cX10_does 32 = .ok (.iconst 0, 1) := by decide +kernel
theorem dX10_does_33 : decode cX10_does 33 = .ok (.istore 4, 2) := by decide +kernel
theorem dX10_does_35 : decode cX10_does 35 = .ok (.aload_n 0, 1) := by decide +kernel
theorem dX10_does_36 : decode cX10_does 36 = .ok (.getfield 34, 3) := by decide +kernel
theorem dX10_does_39 : decode cX10_does 39 = .ok (.bipush 14, 2) := by decide +kernel
theorem dX10_does_41 : decode cX10_does 41 = .ok (.aload_n 0, 1) := by decide +kernel
theorem dX10_does_42 : decode cX10_does 42 = .ok (.getfield 34, 3) := by decide +kernel
theorem dX10_does_45 : decode cX10_does 45 = .ok (.bipush 14, 2) := by decide +kernel
theorem dX10_does_47 : decode cX10_does 47 = .ok (.iaload, 1) := by decide +kernel
theorem dX10_does_48 : decode cX10_does 48 = .ok (.invokestatic 199, 3) := by decide +kernel
theorem dX10_does_51 : decode cX10_does 51 = .ok (.iastore, 1) := by decide +kernel
theorem dX10_does_52 : decode cX10_does 52 = .ok (.iload 4, 2) := by decide +kernel
theorem dX10_does_54 : decode cX10_does 54 = .ok (.ireturn, 1) := by decide +kernel
theorem dX10_does_55 : decode cX10_does 55 = .ok (.aload_n 0, 1) := by decide +kernel
theorem dX10_does_56 : decode cX10_does 56 = .ok (.iload_n 3, 1) := by decide +kernel
theorem dX10_does_57 : decode cX10_does 57 = .ok (.invokevirtual 179, 3) := by decide +kernel
theorem dX10_does_60 : decode cX10_does 60 = .ok (.ifCond .ne 8, 3) := by decide +kernel
theorem dX10_does_63 : decode cX10_does 63 = .ok (.iload_n 2, 1) := by decide +kernel
theorem dX10_does_64 : decode cX10_does 64 = .ok (.iconst 5, 1) := by decide +kernel
theorem dX10_does_65 : decode cX10_does 65 = .ok (.if_icmp .le 5, 3) := by decide +kernel
theorem dX10_does_68 : decode cX10_does 68 = .ok (.iconst 0, 1) := by decide +kernel
theorem dX10_does_69 : decode cX10_does 69 = .ok (.ireturn, 1) := by decide +kernel
theorem dX10_does_70 : decode cX10_does 70 = .ok (.aload_n 0, 1) := by decide +kernel
theorem dX10_does_71 : decode cX10_does 71 = .ok (.getfield 34, 3) := by decide +kernel
theorem dX10_does_74 : decode cX10_does 74 = .ok (.bipush 12, 2) := by decide +kernel
theorem dX10_does_76 : decode cX10_does 76 = .ok (.iaload, 1) := by decide +kernel
theorem dX10_does_77 : decode cX10_does 77 = .ok (.iload_n 3, 1) := by decide +kernel
theorem dX10_does_78 : decode cX10_does 78 = .ok (.invokestatic 144, 3) := by decide +kernel
theorem dX10_does_81 : decode cX10_does 81 = .ok (.istore 4, 2) := by decide +kernel
theorem dX10_does_83 : decode cX10_does 83 = .ok (.iload_n 2, 1) := by decide +kernel
theorem dX10_does_84 : decode cX10_does 84 = .ok (.ifCond .ne 18, 3) := by decide +kernel
theorem dX10_does_87 : decode cX10_does 87 = .ok (.iload 4, 2) := by decide +kernel
theorem dX10_does_89 : decode cX10_does 89 = .ok (.ifCond .eq 13, 3) := by decide +kernel
theorem dX10_does_92 : decode cX10_does 92 = .ok (.aload_n 0, 1) := by decide +kernel
theorem dX10_does_93 : decode cX10_does 93 = .ok (.getfield 34, 3) := by decide +kernel
theorem dX10_does_96 : decode cX10_does 96 = .ok (.iload_n 3, 1) := by decide +kernel
theorem dX10_does_97 : decode cX10_does 97 = .ok (.invokestatic 155, 3) := by decide +kernel
theorem dX10_does_100 : decode cX10_does 100 = .ok (.iconst 1, 1) := by decide +kernel
theorem dX10_does_101 : decode cX10_does 101 = .ok (.ireturn, 1) := by decide +kernel
theorem dX10_does_102 : decode cX10_does 102 = .ok (.iload_n 2, 1) := by decide +kernel
theorem dX10_does_103 : decode cX10_does 103 = .ok (.iconst 5, 1) := by decide +kernel
theorem dX10_does_104 : decode cX10_does 104 = .ok (.if_icmp .ne 23, 3) := by decide +kernel
theorem dX10_does_107 : decode cX10_does 107 = .ok (.iload 4, 2) := by decide +kernel
theorem dX10_does_109 : decode cX10_does 109 = .ok (.ifCond .ne 18, 3) := by decide +kernel
theorem dX10_does_112 : decode cX10_does 112 = .ok (.aload_n 0, 1) := by decide +kernel
theorem dX10_does_113 : decode cX10_does 113 = .ok (.getfield 34, 3) := by decide +kernel
theorem dX10_does_116 : decode cX10_does 116 = .ok (.bipush 11, 2) := by decide +kernel
theorem dX10_does_118 : decode cX10_does 118 = .ok (.dup2, 1) := by decide +kernel
theorem dX10_does_119 : decode cX10_does 119 = .ok (.iaload, 1) := by decide +kernel
theorem dX10_does_120 : decode cX10_does 120 = .ok (.iconst 1, 1) := by decide +kernel
theorem dX10_does_121 : decode cX10_does 121 = .ok (.iload_n 3, 1) := by decide +kernel
theorem dX10_does_122 : decode cX10_does 122 = .ok (.ishl, 1) := by decide +kernel
theorem dX10_does_123 : decode cX10_does 123 = .ok (.ixor, 1) := by decide +kernel
theorem dX10_does_124 : decode cX10_does 124 = .ok (.iastore, 1) := by decide +kernel
theorem dX10_does_125 : decode cX10_does 125 = .ok (.iconst 1, 1) := by decide +kernel
theorem dX10_does_126 : decode cX10_does 126 = .ok (.ireturn, 1) := by decide +kernel
theorem dX10_does_127 : decode cX10_does 127 = .ok (.iload_n 2, 1) := by decide +kernel
theorem dX10_does_128 : decode cX10_does 128 = .ok (.i2l, 1) := by decide +kernel
theorem dX10_does_129 : decode cX10_does 129 = .ok (.lconst 1, 1) := by decide +kernel
theorem dX10_does_130 : decode cX10_does 130 = .ok (.ldc2_w 237, 3) := by decide +kernel
theorem dX10_does_133 : decode cX10_does 133 = .ok (.invokestatic 78, 3) := by decide +kernel
theorem dX10_does_136 : decode cX10_does 136 = .ok (.ifCond .eq 34, 3) := by decide +kernel
theorem dX10_does_139 : decode cX10_does 139 = .ok (.aload_n 0, 1) := by decide +kernel
theorem dX10_does_140 : decode cX10_does 140 = .ok (.iload_n 2, 1) := by decide +kernel
theorem dX10_does_141 : decode cX10_does 141 = .ok (.iconst 1, 1) := by decide +kernel
theorem dX10_does_142 : decode cX10_does 142 = .ok (.isub, 1) := by decide +kernel
theorem dX10_does_143 : decode cX10_does 143 = .ok (.invokevirtual 183, 3) := by decide +kernel
theorem dX10_does_146 : decode cX10_does 146 = .ok (.ifCond .ne 24, 3) := by decide +kernel
theorem dX10_does_149 : decode cX10_does 149 = .ok (.aload_n 0, 1) := by decide +kernel
theorem dX10_does_150 : decode cX10_does 150 = .ok (.getfield 34, 3) := by decide +kernel
theorem dX10_does_153 : decode cX10_does 153 = .ok (.bipush 14, 2) := by decide +kernel
theorem dX10_does_155 : decode cX10_does 155 = .ok (.iaload, 1) := by decide +kernel
theorem dX10_does_156 : decode cX10_does 156 = .ok (.ifCond .eq 14, 3) := by decide +kernel
theorem dX10_does_159 : decode cX10_does 159 = .ok (.aload_n 0, 1) := by decide +kernel
theorem dX10_does_160 : decode cX10_does 160 = .ok (.iload_n 2, 1) := by decide +kernel
theorem dX10_does_161 : decode cX10_does 161 = .ok (.iconst 1, 1) := by decide +kernel
theorem dX10_does_162 : decode cX10_does 162 = .ok (.isub, 1) := by decide +kernel
theorem dX10_does_163 : decode cX10_does 163 = .ok (.iload_n 3, 1) := by decide +kernel
theorem dX10_does_164 : decode cX10_does 164 = .ok (.invokevirtual 215, 3) := by decide +kernel
theorem dX10_does_167 : decode cX10_does 167 = .ok (.ifCond .ne 5, 3) := by decide +kernel
theorem dX10_does_170 : decode cX10_does 170 = .ok (.iconst 0, 1) := by decide +kernel
theorem dX10_does_171 : decode cX10_does 171 = .ok (.ireturn, 1) := by decide +kernel
theorem dX10_does_172 : decode cX10_does 172 = .ok (.aload_n 0, 1) := by decide +kernel
theorem dX10_does_173 : decode cX10_does 173 = .ok (.getfield 34, 3) := by decide +kernel
theorem dX10_does_176 : decode cX10_does 176 = .ok (.bipush 14, 2) := by decide +kernel
theorem dX10_does_178 : decode cX10_does 178 = .ok (.dup2, 1) := by decide +kernel
theorem dX10_does_179 : decode cX10_does 179 = .ok (.iaload, 1) := by decide +kernel
theorem dX10_does_180 : decode cX10_does 180 = .ok (.iconst 1, 1) := by decide +kernel
theorem dX10_does_181 : decode cX10_does 181 = .ok (.isub, 1) := by decide +kernel
theorem dX10_does_182 : decode cX10_does 182 = .ok (.iastore, 1) := by decide +kernel
theorem dX10_does_183 : decode cX10_does 183 = .ok (.iconst 1, 1) := by decide +kernel
theorem dX10_does_184 : decode cX10_does 184 = .ok (.ireturn, 1) := by decide +kernel
theorem dX10_judge_0 : decode cX10_judge 0 = .ok (.aload_n 0, 1) := by decide +kernel
theorem dX10_judge_1 : decode cX10_judge 1 = .ok (.iconst 0, 1) := by decide +kernel
theorem dX10_judge_2 : decode cX10_judge 2 = .ok (.putfield 71, 3) := by decide +kernel
theorem dX10_judge_5 : decode cX10_judge 5 = .ok (.iload_n 1, 1) := by decide +kernel
theorem dX10_judge_6 : decode cX10_judge 6 = .ok (.i2l, 1) := by decide +kernel
theorem dX10_judge_7 : decode cX10_judge 7 = .ok (.lconst 1, 1) := by decide +kernel
theorem dX10_judge_8 : decode cX10_judge 8 = .ok (.ldc2_w 237, 3) := by decide +kernel
theorem dX10_judge_11 : decode cX10_judge 11 = .ok (.invokestatic 78, 3) := by decide +kernel
theorem dX10_judge_14 : decode cX10_judge 14 = .ok (.ifCond .eq 21, 3) := by decide +kernel
theorem dX10_judge_17 : decode cX10_judge 17 = .ok (.iload_n 2, 1) := by decide +kernel
theorem dX10_judge_18 : decode cX10_judge 18 = .ok (.i2l, 1) := by decide +kernel
theorem dX10_judge_19 : decode cX10_judge 19 = .ok (.lconst 0, 1) := by decide +kernel
theorem dX10_judge_20 : decode cX10_judge 20 = .ok (.bipush 100, 2) := by decide +kernel
theorem dX10_judge_22 : decode cX10_judge 22 = .ok (.iload_n 1, 1) := by decide +kernel
theorem dX10_judge_23 : decode cX10_judge 23 = .ok (.invokestatic 212, 3) := by decide +kernel
theorem dX10_judge_26 : decode cX10_judge 26 = .ok (.iconst 1, 1) := by decide +kernel
theorem dX10_judge_27 : decode cX10_judge 27 = .ok (.isub, 1) := by decide +kernel
theorem dX10_judge_28 : decode cX10_judge 28 = .ok (.i2l, 1) := by decide +kernel
theorem dX10_judge_29 : decode cX10_judge 29 = .ok (.invokestatic 78, 3) := by decide +kernel
theorem dX10_judge_32 : decode cX10_judge 32 = .ok (.ifCond .ne 6, 3) := by decide +kernel
theorem dX10_judge_35 : decode cX10_judge 35 = .ok (.bipush (-2), 2) := by decide +kernel
theorem dX10_judge_37 : decode cX10_judge 37 = .ok (.ireturn, 1) := by decide +kernel
theorem dX10_judge_38 : decode cX10_judge 38 = .ok (.aload_n 0, 1) := by decide +kernel
theorem dX10_judge_39 : decode cX10_judge 39 = .ok (.getfield 31, 3) := by decide +kernel
theorem dX10_judge_42 : decode cX10_judge 42 = .ok (.aload_n 0, 1) := by decide +kernel
theorem dX10_judge_43 : decode cX10_judge 43 = .ok (.getfield 34, 3) := by decide +kernel
theorem dX10_judge_46 : decode cX10_judge 46 = .ok (.bipush 15, 2) := by decide +kernel
theorem dX10_judge_48 : decode cX10_judge 48 = .ok (.invokestatic 137, 3) := by decide +kernel
theorem dX10_judge_51 : decode cX10_judge 51 = .ok (.iconst 0, 1) := by decide +kernel
theorem dX10_judge_52 : decode cX10_judge 52 = .ok (.istore_n 3, 1) := by decide +kernel
theorem dX10_judge_53 : decode cX10_judge 53 = .ok (.iload_n 3, 1) := by decide +kernel
theorem dX10_judge_54 : decode cX10_judge 54 = .ok (.iload_n 1, 1) := by decide +kernel
theorem dX10_judge_55 : decode cX10_judge 55 = .ok (.if_icmp .ge 33, 3) := by decide +kernel
theorem dX10_judge_58 : decode cX10_judge 58 = .ok (.aload_n 0, 1) := by decide +kernel
theorem dX10_judge_59 : decode cX10_judge 59 = .ok (.iload_n 2, 1) := by decide +kernel
theorem dX10_judge_60 : decode cX10_judge 60 = .ok (.bipush 100, 2) := by decide +kernel
theorem dX10_judge_62 : decode cX10_judge 62 = .ok (.iload_n 1, 1) := by decide +kernel
theorem dX10_judge_63 : decode cX10_judge 63 = .ok (.iconst 1, 1) := by decide +kernel
theorem dX10_judge_64 : decode cX10_judge 64 = .ok (.isub, 1) := by decide +kernel
theorem dX10_judge_65 : decode cX10_judge 65 = .ok (.iload_n 3, 1) := by decide +kernel
theorem dX10_judge_66 : decode cX10_judge 66 = .ok (.isub, 1) := by decide +kernel
theorem dX10_judge_67 : decode cX10_judge 67 = .ok (.invokestatic 212, 3) := by decide +kernel
theorem dX10_judge_70 : decode cX10_judge 70 = .ok (.idiv, 1) := by decide +kernel
theorem dX10_judge_71 : decode cX10_judge 71 = .ok (.bipush 100, 2) := by decide +kernel
theorem dX10_judge_73 : decode cX10_judge 73 = .ok (.irem, 1) := by decide +kernel
theorem dX10_judge_74 : decode cX10_judge 74 = .ok (.invokevirtual 239, 3) := by decide +kernel
theorem dX10_judge_77 : decode cX10_judge 77 = .ok (.ifCond .ne 5, 3) := by decide +kernel
theorem dX10_judge_80 : decode cX10_judge 80 = .ok (.iload_n 3, 1) := by decide +kernel
theorem dX10_judge_81 : decode cX10_judge 81 = .ok (.ireturn, 1) := by decide +kernel
theorem dX10_judge_82 : decode cX10_judge 82 = .ok (.iinc 3 1, 3) := by decide +kernel
theorem dX10_judge_85 : decode cX10_judge 85 = .ok (.goto (-32), 3) := by decide +kernel
theorem dX10_judge_88 : decode cX10_judge 88 = .ok (.bipush (-9), 2) := by decide +kernel
theorem dX10_judge_90 : decode cX10_judge 90 = .ok (.ireturn, 1) := by decide +kernel
theorem dX10_ways_0 : decode cX10_ways 0 = .ok (.iconst 1, 1) := by decide +kernel
theorem dX10_ways_1 : decode cX10_ways 1 = .ok (.istore_n 1, 1) := by decide +kernel
theorem dX10_ways_2 : decode cX10_ways 2 = .ok (.iconst 2, 1) := by decide +kernel
theorem dX10_ways_3 : decode cX10_ways 3 = .ok (.istore_n 2, 1) := by decide +kernel
theorem dX10_ways_4 : decode cX10_ways 4 = .ok (.iload_n 2, 1) := by decide +kernel
theorem dX10_ways_5 : decode cX10_ways 5 = .ok (.iload_n 0, 1) := by decide +kernel
theorem dX10_ways_6 : decode cX10_ways 6 = .ok (.if_icmp .gt 13, 3) := by decide +kernel
theorem dX10_ways_9 : decode cX10_ways 9 = .ok (.iload_n 1, 1) := by decide +kernel
theorem dX10_ways_10 : decode cX10_ways 10 = .ok (.iload_n 2, 1) := by decide +kernel
theorem dX10_ways_11 : decode cX10_ways 11 = .ok (.imul, 1) := by decide +kernel
theorem dX10_ways_12 : decode cX10_ways 12 = .ok (.istore_n 1, 1) := by decide +kernel
theorem dX10_ways_13 : decode cX10_ways 13 = .ok (.iinc 2 1, 3) := by decide +kernel
theorem dX10_ways_16 : decode cX10_ways 16 = .ok (.goto (-12), 3) := by decide +kernel
theorem dX10_ways_19 : decode cX10_ways 19 = .ok (.iload_n 1, 1) := by decide +kernel
theorem dX10_ways_20 : decode cX10_ways 20 = .ok (.ireturn, 1) := by decide +kernel
theorem dX10_divisor_0 : decode cX10_divisor 0 = .ok (.iload_n 0, 1) := by decide +kernel
theorem dX10_divisor_1 : decode cX10_divisor 1 = .ok (.ifCond .ge 8, 3) := by decide +kernel
theorem dX10_divisor_4 : decode cX10_divisor 4 = .ok (.iload_n 0, 1) := by decide +kernel
theorem dX10_divisor_5 : decode cX10_divisor 5 = .ok (.ineg, 1) := by decide +kernel
theorem dX10_divisor_6 : decode cX10_divisor 6 = .ok (.goto 4, 3) := by decide +kernel
theorem dX10_divisor_9 : decode cX10_divisor 9 = .ok (.iload_n 0, 1) := by decide +kernel
theorem dX10_divisor_10 : decode cX10_divisor 10 = .ok (.istore_n 2, 1) := by decide +kernel
theorem dX10_divisor_11 : decode cX10_divisor 11 = .ok (.iload_n 1, 1) := by decide +kernel
theorem dX10_divisor_12 : decode cX10_divisor 12 = .ok (.istore_n 3, 1) := by decide +kernel
theorem dX10_divisor_13 : decode cX10_divisor 13 = .ok (.iload_n 3, 1) := by decide +kernel
theorem dX10_divisor_14 : decode cX10_divisor 14 = .ok (.ifCond .eq 16, 3) := by decide +kernel
theorem dX10_divisor_17 : decode cX10_divisor 17 = .ok (.iload_n 2, 1) := by decide +kernel
theorem dX10_divisor_18 : decode cX10_divisor 18 = .ok (.iload_n 3, 1) := by decide +kernel
theorem dX10_divisor_19 : decode cX10_divisor 19 = .ok (.irem, 1) := by decide +kernel
theorem dX10_divisor_20 : decode cX10_divisor 20 = .ok (.istore 4, 2) := by decide +kernel
theorem dX10_divisor_22 : decode cX10_divisor 22 = .ok (.iload_n 3, 1) := by decide +kernel
theorem dX10_divisor_23 : decode cX10_divisor 23 = .ok (.istore_n 2, 1) := by decide +kernel
theorem dX10_divisor_24 : decode cX10_divisor 24 = .ok (.iload 4, 2) := by decide +kernel
theorem dX10_divisor_26 : decode cX10_divisor 26 = .ok (.istore_n 3, 1) := by decide +kernel
theorem dX10_divisor_27 : decode cX10_divisor 27 = .ok (.goto (-14), 3) := by decide +kernel
theorem dX10_divisor_30 : decode cX10_divisor 30 = .ok (.iload_n 2, 1) := by decide +kernel
theorem dX10_divisor_31 : decode cX10_divisor 31 = .ok (.ireturn, 1) := by decide +kernel
theorem dX10_fraction_0 : decode cX10_fraction 0 = .ok (.iload_n 0, 1) := by decide +kernel
theorem dX10_fraction_1 : decode cX10_fraction 1 = .ok (.iload_n 1, 1) := by decide +kernel
theorem dX10_fraction_2 : decode cX10_fraction 2 = .ok (.invokestatic 242, 3) := by decide +kernel
theorem dX10_fraction_5 : decode cX10_fraction 5 = .ok (.istore_n 3, 1) := by decide +kernel
theorem dX10_fraction_6 : decode cX10_fraction 6 = .ok (.iload_n 2, 1) := by decide +kernel
theorem dX10_fraction_7 : decode cX10_fraction 7 = .ok (.ifCond .eq 9, 3) := by decide +kernel
theorem dX10_fraction_10 : decode cX10_fraction 10 = .ok (.iload_n 0, 1) := by decide +kernel
theorem dX10_fraction_11 : decode cX10_fraction 11 = .ok (.iload_n 3, 1) := by decide +kernel
theorem dX10_fraction_12 : decode cX10_fraction 12 = .ok (.idiv, 1) := by decide +kernel
theorem dX10_fraction_13 : decode cX10_fraction 13 = .ok (.goto 6, 3) := by decide +kernel
theorem dX10_fraction_16 : decode cX10_fraction 16 = .ok (.iload_n 1, 1) := by decide +kernel
theorem dX10_fraction_17 : decode cX10_fraction 17 = .ok (.iload_n 3, 1) := by decide +kernel
theorem dX10_fraction_18 : decode cX10_fraction 18 = .ok (.idiv, 1) := by decide +kernel
theorem dX10_fraction_19 : decode cX10_fraction 19 = .ok (.ireturn, 1) := by decide +kernel
theorem dX10_share_0 : decode cX10_share 0 = .ok (.aload_n 0, 1) := by decide +kernel
theorem dX10_share_1 : decode cX10_share 1 = .ok (.iconst 0, 1) := by decide +kernel
theorem dX10_share_2 : decode cX10_share 2 = .ok (.putfield 71, 3) := by decide +kernel
theorem dX10_share_5 : decode cX10_share 5 = .ok (.aload_n 0, 1) := by decide +kernel
theorem dX10_share_6 : decode cX10_share 6 = .ok (.iload_n 1, 1) := by decide +kernel
theorem dX10_share_7 : decode cX10_share 7 = .ok (.invokevirtual 183, 3) := by decide +kernel
theorem dX10_share_10 : decode cX10_share 10 = .ok (.ifCond .eq 5, 3) := by decide +kernel
theorem dX10_share_13 : decode cX10_share 13 = .ok (.iconst (-1), 1) := by decide +kernel
theorem dX10_share_14 : decode cX10_share 14 = .ok (.ireturn, 1) := by decide +kernel
theorem dX10_share_15 : decode cX10_share 15 = .ok (.iconst 0, 1) := by decide +kernel
theorem dX10_share_16 : decode cX10_share 16 = .ok (.istore_n 3, 1) := by decide +kernel
theorem dX10_share_17 : decode cX10_share 17 = .ok (.iload_n 3, 1) := by decide +kernel
theorem dX10_share_18 : decode cX10_share 18 = .ok (.iconst 1, 1) := by decide +kernel
theorem dX10_share_19 : decode cX10_share 19 = .ok (.aload_n 0, 1) := by decide +kernel
theorem dX10_share_20 : decode cX10_share 20 = .ok (.getfield 82, 3) := by decide +kernel
theorem dX10_share_23 : decode cX10_share 23 = .ok (.ishl, 1) := by decide +kernel
theorem dX10_share_24 : decode cX10_share 24 = .ok (.if_icmp .ge 24, 3) := by decide +kernel
theorem dX10_share_27 : decode cX10_share 27 = .ok (.aload_n 0, 1) := by decide +kernel
theorem dX10_share_28 : decode cX10_share 28 = .ok (.iload_n 3, 1) := by decide +kernel
theorem dX10_share_29 : decode cX10_share 29 = .ok (.invokevirtual 231, 3) := by decide +kernel
theorem dX10_share_32 : decode cX10_share 32 = .ok (.aload_n 0, 1) := by decide +kernel
theorem dX10_share_33 : decode cX10_share 33 = .ok (.getfield 68, 3) := by decide +kernel
theorem dX10_share_36 : decode cX10_share 36 = .ok (.iload_n 3, 1) := by decide +kernel
theorem dX10_share_37 : decode cX10_share 37 = .ok (.aload_n 0, 1) := by decide +kernel
theorem dX10_share_38 : decode cX10_share 38 = .ok (.getfield 222, 3) := by decide +kernel
theorem dX10_share_41 : decode cX10_share 41 = .ok (.iastore, 1) := by decide +kernel
theorem dX10_share_42 : decode cX10_share 42 = .ok (.iinc 3 1, 3) := by decide +kernel
theorem dX10_share_45 : decode cX10_share 45 = .ok (.goto (-28), 3) := by decide +kernel
theorem dX10_share_48 : decode cX10_share 48 = .ok (.iconst 0, 1) := by decide +kernel
theorem dX10_share_49 : decode cX10_share 49 = .ok (.istore_n 3, 1) := by decide +kernel
theorem dX10_share_50 : decode cX10_share 50 = .ok (.iconst 0, 1) := by decide +kernel
theorem dX10_share_51 : decode cX10_share 51 = .ok (.istore 4, 2) := by decide +kernel
theorem dX10_share_53 : decode cX10_share 53 = .ok (.iload 4, 2) := by decide +kernel
theorem dX10_share_55 : decode cX10_share 55 = .ok (.iconst 1, 1) := by decide +kernel
theorem dX10_share_56 : decode cX10_share 56 = .ok (.aload_n 0, 1) := by decide +kernel
theorem dX10_share_57 : decode cX10_share 57 = .ok (.getfield 82, 3) := by decide +kernel
theorem dX10_share_60 : decode cX10_share 60 = .ok (.ishl, 1) := by decide +kernel
theorem dX10_share_61 : decode cX10_share 61 = .ok (.if_icmp .ge 66, 3) := by decide +kernel
theorem dX10_share_64 : decode cX10_share 64 = .ok (.iload 4, 2) := by decide +kernel
theorem dX10_share_66 : decode cX10_share 66 = .ok (.iload_n 1, 1) := by decide +kernel
theorem dX10_share_67 : decode cX10_share 67 = .ok (.invokestatic 144, 3) := by decide +kernel
theorem dX10_share_70 : decode cX10_share 70 = .ok (.ifCond .ne 51, 3) := by decide +kernel
theorem dX10_share_73 : decode cX10_share 73 = .ok (.iload 4, 2) := by decide +kernel
theorem dX10_share_75 : decode cX10_share 75 = .ok (.invokestatic 228, 3) := by decide +kernel
theorem dX10_share_78 : decode cX10_share 78 = .ok (.istore 5, 2) := by decide +kernel
theorem dX10_share_80 : decode cX10_share 80 = .ok (.iload_n 3, 1) := by decide +kernel
theorem dX10_share_81 : decode cX10_share 81 = .ok (.iload 5, 2) := by decide +kernel
theorem dX10_share_83 : decode cX10_share 83 = .ok (.invokestatic 245, 3) := by decide +kernel
theorem dX10_share_86 : decode cX10_share 86 = .ok (.aload_n 0, 1) := by decide +kernel
theorem dX10_share_87 : decode cX10_share 87 = .ok (.getfield 82, 3) := by decide +kernel
theorem dX10_share_90 : decode cX10_share 90 = .ok (.iconst 1, 1) := by decide +kernel
theorem dX10_share_91 : decode cX10_share 91 = .ok (.isub, 1) := by decide +kernel
theorem dX10_share_92 : decode cX10_share 92 = .ok (.iload 5, 2) := by decide +kernel
theorem dX10_share_94 : decode cX10_share 94 = .ok (.isub, 1) := by decide +kernel
theorem dX10_share_95 : decode cX10_share 95 = .ok (.invokestatic 245, 3) := by decide +kernel
theorem dX10_share_98 : decode cX10_share 98 = .ok (.imul, 1) := by decide +kernel
theorem dX10_share_99 : decode cX10_share 99 = .ok (.aload_n 0, 1) := by decide +kernel
theorem dX10_share_100 : decode cX10_share 100 = .ok (.getfield 68, 3) := by decide +kernel
theorem dX10_share_103 : decode cX10_share 103 = .ok (.iload 4, 2) := by decide +kernel
theorem dX10_share_105 : decode cX10_share 105 = .ok (.iconst 1, 1) := by decide +kernel
theorem dX10_share_106 : decode cX10_share 106 = .ok (.iload_n 1, 1) := by decide +kernel
theorem dX10_share_107 : decode cX10_share 107 = .ok (.ishl, 1) := by decide +kernel
theorem dX10_share_108 : decode cX10_share 108 = .ok (.ior, 1) := by decide +kernel
theorem dX10_share_109 : decode cX10_share 109 = .ok (.iaload, 1) := by decide +kernel
theorem dX10_share_110 : decode cX10_share 110 = .ok (.aload_n 0, 1) := by decide +kernel
theorem dX10_share_111 : decode cX10_share 111 = .ok (.getfield 68, 3) := by decide +kernel
theorem dX10_share_114 : decode cX10_share 114 = .ok (.iload 4, 2) := by decide +kernel
theorem dX10_share_116 : decode cX10_share 116 = .ok (.iaload, 1) := by decide +kernel
theorem dX10_share_117 : decode cX10_share 117 = .ok (.isub, 1) := by decide +kernel
theorem dX10_share_118 : decode cX10_share 118 = .ok (.imul, 1) := by decide +kernel
theorem dX10_share_119 : decode cX10_share 119 = .ok (.iadd, 1) := by decide +kernel
theorem dX10_share_120 : decode cX10_share 120 = .ok (.istore_n 3, 1) := by decide +kernel
theorem dX10_share_121 : decode cX10_share 121 = .ok (.iinc 4 1, 3) := by decide +kernel
theorem dX10_share_124 : decode cX10_share 124 = .ok (.goto (-71), 3) := by decide +kernel
theorem dX10_share_127 : decode cX10_share 127 = .ok (.iload_n 3, 1) := by decide +kernel
theorem dX10_share_128 : decode cX10_share 128 = .ok (.aload_n 0, 1) := by decide +kernel
theorem dX10_share_129 : decode cX10_share 129 = .ok (.getfield 82, 3) := by decide +kernel
theorem dX10_share_132 : decode cX10_share 132 = .ok (.invokestatic 245, 3) := by decide +kernel
theorem dX10_share_135 : decode cX10_share 135 = .ok (.iload_n 2, 1) := by decide +kernel
theorem dX10_share_136 : decode cX10_share 136 = .ok (.invokestatic 248, 3) := by decide +kernel
theorem dX10_share_139 : decode cX10_share 139 = .ok (.ireturn, 1) := by decide +kernel
theorem dX10_see_0 : decode cX10_see 0 = .ok (.aload_n 0, 1) := by decide +kernel
theorem dX10_see_1 : decode cX10_see 1 = .ok (.iconst 0, 1) := by decide +kernel
theorem dX10_see_2 : decode cX10_see 2 = .ok (.putfield 71, 3) := by decide +kernel
theorem dX10_see_5 : decode cX10_see 5 = .ok (.aload_n 0, 1) := by decide +kernel
theorem dX10_see_6 : decode cX10_see 6 = .ok (.iload_n 1, 1) := by decide +kernel
theorem dX10_see_7 : decode cX10_see 7 = .ok (.invokevirtual 179, 3) := by decide +kernel
theorem dX10_see_10 : decode cX10_see 10 = .ok (.ifCond .eq 5, 3) := by decide +kernel
theorem dX10_see_13 : decode cX10_see 13 = .ok (.iconst (-1), 1) := by decide +kernel
theorem dX10_see_14 : decode cX10_see 14 = .ok (.ireturn, 1) := by decide +kernel
theorem dX10_see_15 : decode cX10_see 15 = .ok (.iload_n 2, 1) := by decide +kernel
theorem dX10_see_16 : decode cX10_see 16 = .ok (.i2l, 1) := by decide +kernel
theorem dX10_see_17 : decode cX10_see 17 = .ok (.lconst 1, 1) := by decide +kernel
theorem dX10_see_18 : decode cX10_see 18 = .ok (.ldc2_w 252, 3) := by decide +kernel
theorem dX10_see_21 : decode cX10_see 21 = .ok (.invokestatic 78, 3) := by decide +kernel
theorem dX10_see_24 : decode cX10_see 24 = .ok (.ifCond .eq 13, 3) := by decide +kernel
theorem dX10_see_27 : decode cX10_see 27 = .ok (.iload_n 3, 1) := by decide +kernel
theorem dX10_see_28 : decode cX10_see 28 = .ok (.i2l, 1) := by decide +kernel
theorem dX10_see_29 : decode cX10_see 29 = .ok (.lconst 0, 1) := by decide +kernel
theorem dX10_see_30 : decode cX10_see 30 = .ok (.lconst 1, 1) := by decide +kernel
theorem dX10_see_31 : decode cX10_see 31 = .ok (.invokestatic 78, 3) := by decide +kernel
theorem dX10_see_34 : decode cX10_see 34 = .ok (.ifCond .ne 6, 3) := by decide +kernel
theorem dX10_see_37 : decode cX10_see 37 = .ok (.bipush (-2), 2) := by decide +kernel
theorem dX10_see_39 : decode cX10_see 39 = .ok (.ireturn, 1) := by decide +kernel
theorem dX10_see_40 : decode cX10_see 40 = .ok (.aload_n 0, 1) := by decide +kernel
theorem dX10_see_41 : decode cX10_see 41 = .ok (.getfield 176, 3) := by decide +kernel
theorem dX10_see_44 : decode cX10_see 44 = .ok (.bipush 6, 2) := by decide +kernel
theorem dX10_see_46 : decode cX10_see 46 = .ok (.if_icmp .ne 6, 3) := by decide +kernel
theorem dX10_see_49 : decode cX10_see 49 = .ok (.bipush (-4), 2) := by decide +kernel
theorem dX10_see_51 : decode cX10_see 51 = .ok (.ireturn, 1) := by decide +kernel
theorem dX10_see_52 : decode cX10_see 52 = .ok (.aload_n 0, 1) := by decide +kernel
theorem dX10_see_53 : decode cX10_see 53 = .ok (.getfield 50, 3) := by decide +kernel
theorem dX10_see_56 : decode cX10_see 56 = .ok (.aload_n 0, 1) := by decide +kernel
theorem dX10_see_57 : decode cX10_see 57 = .ok (.getfield 176, 3) := by decide +kernel
theorem dX10_see_60 : decode cX10_see 60 = .ok (.iload_n 1, 1) := by decide +kernel
theorem dX10_see_61 : decode cX10_see 61 = .ok (.iastore, 1) := by decide +kernel
theorem dX10_see_62 : decode cX10_see 62 = .ok (.aload_n 0, 1) := by decide +kernel
theorem dX10_see_63 : decode cX10_see 63 = .ok (.getfield 53, 3) := by decide +kernel
theorem dX10_see_66 : decode cX10_see 66 = .ok (.aload_n 0, 1) := by decide +kernel
theorem dX10_see_67 : decode cX10_see 67 = .ok (.getfield 176, 3) := by decide +kernel
theorem dX10_see_70 : decode cX10_see 70 = .ok (.iload_n 2, 1) := by decide +kernel
theorem dX10_see_71 : decode cX10_see 71 = .ok (.iastore, 1) := by decide +kernel
theorem dX10_see_72 : decode cX10_see 72 = .ok (.aload_n 0, 1) := by decide +kernel
theorem dX10_see_73 : decode cX10_see 73 = .ok (.getfield 56, 3) := by decide +kernel
theorem dX10_see_76 : decode cX10_see 76 = .ok (.aload_n 0, 1) := by decide +kernel
theorem dX10_see_77 : decode cX10_see 77 = .ok (.getfield 176, 3) := by decide +kernel
theorem dX10_see_80 : decode cX10_see 80 = .ok (.iload_n 3, 1) := by decide +kernel
theorem dX10_see_81 : decode cX10_see 81 = .ok (.iastore, 1) := by decide +kernel
theorem dX10_see_82 : decode cX10_see 82 = .ok (.aload_n 0, 1) := by decide +kernel
theorem dX10_see_83 : decode cX10_see 83 = .ok (.dup, 1) := by decide +kernel
theorem dX10_see_84 : decode cX10_see 84 = .ok (.getfield 176, 3) := by decide +kernel
theorem dX10_see_87 : decode cX10_see 87 = .ok (.iconst 1, 1) := by decide +kernel
theorem dX10_see_88 : decode cX10_see 88 = .ok (.iadd, 1) := by decide +kernel
theorem dX10_see_89 : decode cX10_see 89 = .ok (.putfield 176, 3) := by decide +kernel
theorem dX10_see_92 : decode cX10_see 92 = .ok (.aload_n 0, 1) := by decide +kernel
theorem dX10_see_93 : decode cX10_see 93 = .ok (.getfield 176, 3) := by decide +kernel
theorem dX10_see_96 : decode cX10_see 96 = .ok (.ireturn, 1) := by decide +kernel
theorem dX10_unsee_0 : decode cX10_unsee 0 = .ok (.aload_n 0, 1) := by decide +kernel
theorem dX10_unsee_1 : decode cX10_unsee 1 = .ok (.iconst 0, 1) := by decide +kernel
theorem dX10_unsee_2 : decode cX10_unsee 2 = .ok (.putfield 71, 3) := by decide +kernel
theorem dX10_unsee_5 : decode cX10_unsee 5 = .ok (.aload_n 0, 1) := by decide +kernel
theorem dX10_unsee_6 : decode cX10_unsee 6 = .ok (.getfield 176, 3) := by decide +kernel
theorem dX10_unsee_9 : decode cX10_unsee 9 = .ok (.istore_n 1, 1) := by decide +kernel
theorem dX10_unsee_10 : decode cX10_unsee 10 = .ok (.aload_n 0, 1) := by decide +kernel
theorem dX10_unsee_11 : decode cX10_unsee 11 = .ok (.iconst 0, 1) := by decide +kernel
theorem dX10_unsee_12 : decode cX10_unsee 12 = .ok (.putfield 176, 3) := by decide +kernel
theorem dX10_unsee_15 : decode cX10_unsee 15 = .ok (.iload_n 1, 1) := by decide +kernel
theorem dX10_unsee_16 : decode cX10_unsee 16 = .ok (.ireturn, 1) := by decide +kernel
theorem dX10_holds_0 : decode cX10_holds 0 = .ok (.aload_n 0, 1) := by decide +kernel
theorem dX10_holds_1 : decode cX10_holds 1 = .ok (.iconst 0, 1) := by decide +kernel
theorem dX10_holds_2 : decode cX10_holds 2 = .ok (.putfield 71, 3) := by decide +kernel
theorem dX10_holds_5 : decode cX10_holds 5 = .ok (.aload_n 0, 1) := by decide +kernel
theorem dX10_holds_6 : decode cX10_holds 6 = .ok (.iload_n 1, 1) := by decide +kernel
theorem dX10_holds_7 : decode cX10_holds 7 = .ok (.invokevirtual 179, 3) := by decide +kernel
theorem dX10_holds_10 : decode cX10_holds 10 = .ok (.ifCond .eq 5, 3) := by decide +kernel
theorem dX10_holds_13 : decode cX10_holds 13 = .ok (.iconst (-1), 1) := by decide +kernel
theorem dX10_holds_14 : decode cX10_holds 14 = .ok (.ireturn, 1) := by decide +kernel
theorem dX10_holds_15 : decode cX10_holds 15 = .ok (.iconst 0, 1) := by decide +kernel
theorem dX10_holds_16 : decode cX10_holds 16 = .ok (.istore_n 2, 1) := by decide +kernel
theorem dX10_holds_17 : decode cX10_holds 17 = .ok (.iconst 1, 1) := by decide +kernel
theorem dX10_holds_18 : decode cX10_holds 18 = .ok (.istore_n 3, 1) := by decide +kernel
theorem dX10_holds_19 : decode cX10_holds 19 = .ok (.iload_n 3, 1) := by decide +kernel
theorem dX10_holds_20 : decode cX10_holds 20 = .ok (.bipush 10, 2) := by decide +kernel
theorem dX10_holds_22 : decode cX10_holds 22 = .ok (.if_icmp .ge 127, 3) := by decide +kernel
theorem dX10_holds_25 : decode cX10_holds 25 = .ok (.iload_n 3, 1) := by decide +kernel
theorem dX10_holds_26 : decode cX10_holds 26 = .ok (.aload_n 0, 1) := by decide +kernel
theorem dX10_holds_27 : decode cX10_holds 27 = .ok (.getfield 31, 3) := by decide +kernel
theorem dX10_holds_30 : decode cX10_holds 30 = .ok (.bipush 11, 2) := by decide +kernel
theorem dX10_holds_32 : decode cX10_holds 32 = .ok (.iaload, 1) := by decide +kernel
theorem dX10_holds_33 : decode cX10_holds 33 = .ok (.iload_n 1, 1) := by decide +kernel
theorem dX10_holds_34 : decode cX10_holds 34 = .ok (.invokestatic 144, 3) := by decide +kernel
theorem dX10_holds_37 : decode cX10_holds 37 = .ok (.ifCond .eq 7, 3) := by decide +kernel
theorem dX10_holds_40 : decode cX10_holds 40 = .ok (.iconst 4, 1) := by decide +kernel
theorem dX10_holds_41 : decode cX10_holds 41 = .ok (.goto 4, 3) := by decide +kernel
theorem dX10_holds_44 : decode cX10_holds 44 = .ok (.iconst 0, 1) := by decide +kernel
theorem dX10_holds_45 : decode cX10_holds 45 = .ok (.iadd, 1) := by decide +kernel
theorem dX10_holds_46 : decode cX10_holds 46 = .ok (.istore 4, 2) := by decide +kernel
theorem dX10_holds_48 : decode cX10_holds 48 = .ok (.iconst 1, 1) := by decide +kernel
theorem dX10_holds_49 : decode cX10_holds 49 = .ok (.istore 5, 2) := by decide +kernel
theorem dX10_holds_51 : decode cX10_holds 51 = .ok (.iconst 0, 1) := by decide +kernel
theorem dX10_holds_52 : decode cX10_holds 52 = .ok (.istore 6, 2) := by decide +kernel
theorem dX10_holds_54 : decode cX10_holds 54 = .ok (.iload 6, 2) := by decide +kernel
theorem dX10_holds_56 : decode cX10_holds 56 = .ok (.aload_n 0, 1) := by decide +kernel
theorem dX10_holds_57 : decode cX10_holds 57 = .ok (.getfield 176, 3) := by decide +kernel
theorem dX10_holds_60 : decode cX10_holds 60 = .ok (.if_icmp .ge 68, 3) := by decide +kernel
theorem dX10_holds_63 : decode cX10_holds 63 = .ok (.iload 5, 2) := by decide +kernel
theorem dX10_holds_65 : decode cX10_holds 65 = .ok (.ifCond .eq 54, 3) := by decide +kernel
theorem dX10_holds_68 : decode cX10_holds 68 = .ok (.aload_n 0, 1) := by decide +kernel
theorem dX10_holds_69 : decode cX10_holds 69 = .ok (.getfield 50, 3) := by decide +kernel
theorem dX10_holds_72 : decode cX10_holds 72 = .ok (.iload 6, 2) := by decide +kernel
theorem dX10_holds_74 : decode cX10_holds 74 = .ok (.iaload, 1) := by decide +kernel
theorem dX10_holds_75 : decode cX10_holds 75 = .ok (.iload_n 1, 1) := by decide +kernel
theorem dX10_holds_76 : decode cX10_holds 76 = .ok (.if_icmp .ne 39, 3) := by decide +kernel
theorem dX10_holds_79 : decode cX10_holds 79 = .ok (.aload_n 0, 1) := by decide +kernel
theorem dX10_holds_80 : decode cX10_holds 80 = .ok (.getfield 53, 3) := by decide +kernel
theorem dX10_holds_83 : decode cX10_holds 83 = .ok (.iload 6, 2) := by decide +kernel
theorem dX10_holds_85 : decode cX10_holds 85 = .ok (.iaload, 1) := by decide +kernel
theorem dX10_holds_86 : decode cX10_holds 86 = .ok (.iload 4, 2) := by decide +kernel
theorem dX10_holds_88 : decode cX10_holds 88 = .ok (.if_icmp .lt 7, 3) := by decide +kernel
theorem dX10_holds_91 : decode cX10_holds 91 = .ok (.iconst 1, 1) := by decide +kernel
theorem dX10_holds_92 : decode cX10_holds 92 = .ok (.goto 4, 3) := by decide +kernel
theorem dX10_holds_95 : decode cX10_holds 95 = .ok (.iconst 0, 1) := by decide +kernel
theorem dX10_holds_96 : decode cX10_holds 96 = .ok (.aload_n 0, 1) := by decide +kernel
theorem dX10_holds_97 : decode cX10_holds 97 = .ok (.getfield 56, 3) := by decide +kernel
theorem dX10_holds_100 : decode cX10_holds 100 = .ok (.iload 6, 2) := by decide +kernel
theorem dX10_holds_102 : decode cX10_holds 102 = .ok (.iaload, 1) := by decide +kernel
theorem dX10_holds_103 : decode cX10_holds 103 = .ok (.iconst 1, 1) := by decide +kernel
theorem dX10_holds_104 : decode cX10_holds 104 = .ok (.if_icmp .ne 7, 3) := by decide +kernel
theorem dX10_holds_107 : decode cX10_holds 107 = .ok (.iconst 1, 1) := by decide +kernel
theorem dX10_holds_108 : decode cX10_holds 108 = .ok (.goto 4, 3) := by decide +kernel
theorem dX10_holds_111 : decode cX10_holds 111 = .ok (.iconst 0, 1) := by decide +kernel
theorem dX10_holds_112 : decode cX10_holds 112 = .ok (.if_icmp .ne 7, 3) := by decide +kernel
theorem dX10_holds_115 : decode cX10_holds 115 = .ok (.iconst 1, 1) := by decide +kernel
theorem dX10_holds_116 : decode cX10_holds 116 = .ok (.goto 4, 3) := by decide +kernel
theorem dX10_holds_119 : decode cX10_holds 119 = .ok (.iconst 0, 1) := by decide +kernel
theorem dX10_holds_120 : decode cX10_holds 120 = .ok (.istore 5, 2) := by decide +kernel
theorem dX10_holds_122 : decode cX10_holds 122 = .ok (.iinc 6 1, 3) := by decide +kernel
theorem dX10_holds_125 : decode cX10_holds 125 = .ok (.goto (-71), 3) := by decide +kernel
theorem dX10_holds_128 : decode cX10_holds 128 = .ok (.iload_n 2, 1) := by decide +kernel
theorem dX10_holds_129 : decode cX10_holds 129 = .ok (.iload 5, 2) := by decide +kernel
theorem dX10_holds_131 : decode cX10_holds 131 = .ok (.ifCond .eq 9, 3) := by decide +kernel
theorem dX10_holds_134 : decode cX10_holds 134 = .ok (.iconst 1, 1) := by decide +kernel
theorem dX10_holds_135 : decode cX10_holds 135 = .ok (.iload_n 3, 1) := by decide +kernel
theorem dX10_holds_136 : decode cX10_holds 136 = .ok (.ishl, 1) := by decide +kernel
theorem dX10_holds_137 : decode cX10_holds 137 = .ok (.goto 4, 3) := by decide +kernel
theorem dX10_holds_140 : decode cX10_holds 140 = .ok (.iconst 0, 1) := by decide +kernel
theorem dX10_holds_141 : decode cX10_holds 141 = .ok (.ior, 1) := by decide +kernel
theorem dX10_holds_142 : decode cX10_holds 142 = .ok (.istore_n 2, 1) := by decide +kernel
theorem dX10_holds_143 : decode cX10_holds 143 = .ok (.iinc 3 1, 3) := by decide +kernel
theorem dX10_holds_146 : decode cX10_holds 146 = .ok (.goto (-127), 3) := by decide +kernel
theorem dX10_holds_149 : decode cX10_holds 149 = .ok (.iload_n 2, 1) := by decide +kernel
theorem dX10_holds_150 : decode cX10_holds 150 = .ok (.ireturn, 1) := by decide +kernel
theorem dX10_layWorth_0 : decode cX10_layWorth 0 = .ok (.aload_n 0, 1) := by decide +kernel
theorem dX10_layWorth_1 : decode cX10_layWorth 1 = .ok (.getfield 31, 3) := by decide +kernel
theorem dX10_layWorth_4 : decode cX10_layWorth 4 = .ok (.aload_n 0, 1) := by decide +kernel
theorem dX10_layWorth_5 : decode cX10_layWorth 5 = .ok (.getfield 34, 3) := by decide +kernel
theorem dX10_layWorth_8 : decode cX10_layWorth 8 = .ok (.bipush 15, 2) := by decide +kernel
theorem dX10_layWorth_10 : decode cX10_layWorth 10 = .ok (.invokestatic 137, 3) := by decide +kernel
theorem dX10_layWorth_13 : decode cX10_layWorth 13 = .ok (.iload_n 1, 1) := by decide +kernel
theorem dX10_layWorth_14 : decode cX10_layWorth 14 = .ok (.ifCond .le 18, 3) := by decide +kernel
theorem dX10_layWorth_17 : decode cX10_layWorth 17 = .ok (.aload_n 0, 1) := by decide +kernel
theorem dX10_layWorth_18 : decode cX10_layWorth 18 = .ok (.iconst 0, 1) := by decide +kernel
theorem dX10_layWorth_19 : decode cX10_layWorth 19 = .ok (.iload_n 1, 1) := by decide +kernel
theorem dX10_layWorth_20 : decode cX10_layWorth 20 = .ok (.iconst 1, 1) := by decide +kernel
theorem dX10_layWorth_21 : decode cX10_layWorth 21 = .ok (.isub, 1) := by decide +kernel
theorem dX10_layWorth_22 : decode cX10_layWorth 22 = .ok (.invokevirtual 215, 3) := by decide +kernel
theorem dX10_layWorth_25 : decode cX10_layWorth 25 = .ok (.ifCond .eq 7, 3) := by decide +kernel
theorem dX10_layWorth_28 : decode cX10_layWorth 28 = .ok (.iconst (-1), 1) := by decide +kernel
theorem dX10_layWorth_29 : decode cX10_layWorth 29 = .ok (.goto 4, 3) := by decide +kernel
theorem dX10_layWorth_32 : decode cX10_layWorth 32 = .ok (.iconst 0, 1) := by decide +kernel
theorem dX10_layWorth_33 : decode cX10_layWorth 33 = .ok (.istore_n 3, 1) := by decide +kernel
theorem dX10_layWorth_34 : decode cX10_layWorth 34 = .ok (.iload_n 2, 1) := by decide +kernel
theorem dX10_layWorth_35 : decode cX10_layWorth 35 = .ok (.ifCond .le 18, 3) := by decide +kernel
theorem dX10_layWorth_38 : decode cX10_layWorth 38 = .ok (.aload_n 0, 1) := by decide +kernel
theorem dX10_layWorth_39 : decode cX10_layWorth 39 = .ok (.iconst 1, 1) := by decide +kernel
theorem dX10_layWorth_40 : decode cX10_layWorth 40 = .ok (.iload_n 2, 1) := by decide +kernel
theorem dX10_layWorth_41 : decode cX10_layWorth 41 = .ok (.iconst 1, 1) := by decide +kernel
theorem dX10_layWorth_42 : decode cX10_layWorth 42 = .ok (.isub, 1) := by decide +kernel
theorem dX10_layWorth_43 : decode cX10_layWorth 43 = .ok (.invokevirtual 215, 3) := by decide +kernel
theorem dX10_layWorth_46 : decode cX10_layWorth 46 = .ok (.ifCond .eq 7, 3) := by decide +kernel
theorem dX10_layWorth_49 : decode cX10_layWorth 49 = .ok (.iconst (-1), 1) := by decide +kernel
theorem dX10_layWorth_50 : decode cX10_layWorth 50 = .ok (.goto 4, 3) := by decide +kernel
theorem dX10_layWorth_53 : decode cX10_layWorth 53 = .ok (.iconst 0, 1) := by decide +kernel
theorem dX10_layWorth_54 : decode cX10_layWorth 54 = .ok (.istore 4, 2) := by decide +kernel
theorem dX10_layWorth_56 : decode cX10_layWorth 56 = .ok (.iconst 0, 1) := by decide +kernel
theorem dX10_layWorth_57 : decode cX10_layWorth 57 = .ok (.istore 5, 2) := by decide +kernel
theorem dX10_layWorth_59 : decode cX10_layWorth 59 = .ok (.iload 5, 2) := by decide +kernel
theorem dX10_layWorth_61 : decode cX10_layWorth 61 = .ok (.aload_n 0, 1) := by decide +kernel
theorem dX10_layWorth_62 : decode cX10_layWorth 62 = .ok (.getfield 75, 3) := by decide +kernel
theorem dX10_layWorth_65 : decode cX10_layWorth 65 = .ok (.if_icmp .ge 63, 3) := by decide +kernel
theorem dX10_layWorth_68 : decode cX10_layWorth 68 = .ok (.iload_n 3, 1) := by decide +kernel
theorem dX10_layWorth_69 : decode cX10_layWorth 69 = .ok (.aload_n 0, 1) := by decide +kernel
theorem dX10_layWorth_70 : decode cX10_layWorth 70 = .ok (.getfield 34, 3) := by decide +kernel
theorem dX10_layWorth_73 : decode cX10_layWorth 73 = .ok (.bipush 12, 2) := by decide +kernel
theorem dX10_layWorth_75 : decode cX10_layWorth 75 = .ok (.iaload, 1) := by decide +kernel
theorem dX10_layWorth_76 : decode cX10_layWorth 76 = .ok (.iload 5, 2) := by decide +kernel
theorem dX10_layWorth_78 : decode cX10_layWorth 78 = .ok (.invokestatic 144, 3) := by decide +kernel
theorem dX10_layWorth_81 : decode cX10_layWorth 81 = .ok (.ifCond .eq 10, 3) := by decide +kernel
theorem dX10_layWorth_84 : decode cX10_layWorth 84 = .ok (.iload 5, 2) := by decide +kernel
theorem dX10_layWorth_86 : decode cX10_layWorth 86 = .ok (.iconst 1, 1) := by decide +kernel
theorem dX10_layWorth_87 : decode cX10_layWorth 87 = .ok (.iadd, 1) := by decide +kernel
theorem dX10_layWorth_88 : decode cX10_layWorth 88 = .ok (.goto 4, 3) := by decide +kernel
theorem dX10_layWorth_91 : decode cX10_layWorth 91 = .ok (.iconst 0, 1) := by decide +kernel
theorem dX10_layWorth_92 : decode cX10_layWorth 92 = .ok (.iadd, 1) := by decide +kernel
theorem dX10_layWorth_93 : decode cX10_layWorth 93 = .ok (.istore_n 3, 1) := by decide +kernel
theorem dX10_layWorth_94 : decode cX10_layWorth 94 = .ok (.iload 4, 2) := by decide +kernel
theorem dX10_layWorth_96 : decode cX10_layWorth 96 = .ok (.aload_n 0, 1) := by decide +kernel
theorem dX10_layWorth_97 : decode cX10_layWorth 97 = .ok (.getfield 34, 3) := by decide +kernel
theorem dX10_layWorth_100 : decode cX10_layWorth 100 = .ok (.bipush 12, 2) := by decide +kernel
theorem dX10_layWorth_102 : decode cX10_layWorth 102 = .ok (.iaload, 1) := by decide +kernel
theorem dX10_layWorth_103 : decode cX10_layWorth 103 = .ok (.iload 5, 2) := by decide +kernel
theorem dX10_layWorth_105 : decode cX10_layWorth 105 = .ok (.invokestatic 144, 3) := by decide +kernel
theorem dX10_layWorth_108 : decode cX10_layWorth 108 = .ok (.ifCond .eq 10, 3) := by decide +kernel
theorem dX10_layWorth_111 : decode cX10_layWorth 111 = .ok (.iconst 5, 1) := by decide +kernel
theorem dX10_layWorth_112 : decode cX10_layWorth 112 = .ok (.iload 5, 2) := by decide +kernel
theorem dX10_layWorth_114 : decode cX10_layWorth 114 = .ok (.isub, 1) := by decide +kernel
theorem dX10_layWorth_115 : decode cX10_layWorth 115 = .ok (.goto 4, 3) := by decide +kernel
theorem dX10_layWorth_118 : decode cX10_layWorth 118 = .ok (.iconst 0, 1) := by decide +kernel
theorem dX10_layWorth_119 : decode cX10_layWorth 119 = .ok (.iadd, 1) := by decide +kernel
theorem dX10_layWorth_120 : decode cX10_layWorth 120 = .ok (.istore 4, 2) := by decide +kernel
theorem dX10_layWorth_122 : decode cX10_layWorth 122 = .ok (.iinc 5 1, 3) := by decide +kernel
theorem dX10_layWorth_125 : decode cX10_layWorth 125 = .ok (.goto (-66), 3) := by decide +kernel
theorem dX10_layWorth_128 : decode cX10_layWorth 128 = .ok (.aload_n 0, 1) := by decide +kernel
theorem dX10_layWorth_129 : decode cX10_layWorth 129 = .ok (.getfield 65, 3) := by decide +kernel
theorem dX10_layWorth_132 : decode cX10_layWorth 132 = .ok (.iconst 2, 1) := by decide +kernel
theorem dX10_layWorth_133 : decode cX10_layWorth 133 = .ok (.bipush 6, 2) := by decide +kernel
theorem dX10_layWorth_135 : decode cX10_layWorth 135 = .ok (.iload_n 1, 1) := by decide +kernel
theorem dX10_layWorth_136 : decode cX10_layWorth 136 = .ok (.imul, 1) := by decide +kernel
theorem dX10_layWorth_137 : decode cX10_layWorth 137 = .ok (.iload_n 2, 1) := by decide +kernel
theorem dX10_layWorth_138 : decode cX10_layWorth 138 = .ok (.iadd, 1) := by decide +kernel
theorem dX10_layWorth_139 : decode cX10_layWorth 139 = .ok (.imul, 1) := by decide +kernel
theorem dX10_layWorth_140 : decode cX10_layWorth 140 = .ok (.iload_n 3, 1) := by decide +kernel
theorem dX10_layWorth_141 : decode cX10_layWorth 141 = .ok (.iastore, 1) := by decide +kernel
theorem dX10_layWorth_142 : decode cX10_layWorth 142 = .ok (.aload_n 0, 1) := by decide +kernel
theorem dX10_layWorth_143 : decode cX10_layWorth 143 = .ok (.getfield 65, 3) := by decide +kernel
theorem dX10_layWorth_146 : decode cX10_layWorth 146 = .ok (.iconst 2, 1) := by decide +kernel
theorem dX10_layWorth_147 : decode cX10_layWorth 147 = .ok (.bipush 6, 2) := by decide +kernel
theorem dX10_layWorth_149 : decode cX10_layWorth 149 = .ok (.iload_n 1, 1) := by decide +kernel
theorem dX10_layWorth_150 : decode cX10_layWorth 150 = .ok (.imul, 1) := by decide +kernel
theorem dX10_layWorth_151 : decode cX10_layWorth 151 = .ok (.iload_n 2, 1) := by decide +kernel
theorem dX10_layWorth_152 : decode cX10_layWorth 152 = .ok (.iadd, 1) := by decide +kernel
theorem dX10_layWorth_153 : decode cX10_layWorth 153 = .ok (.imul, 1) := by decide +kernel
theorem dX10_layWorth_154 : decode cX10_layWorth 154 = .ok (.iconst 1, 1) := by decide +kernel
theorem dX10_layWorth_155 : decode cX10_layWorth 155 = .ok (.iadd, 1) := by decide +kernel
theorem dX10_layWorth_156 : decode cX10_layWorth 156 = .ok (.iload 4, 2) := by decide +kernel
theorem dX10_layWorth_158 : decode cX10_layWorth 158 = .ok (.iastore, 1) := by decide +kernel
theorem dX10_layWorth_159 : decode cX10_layWorth 159 = .ok (.return_, 1) := by decide +kernel
theorem dX10_findRests_0 : decode cX10_findRests 0 = .ok (.iconst 0, 1) := by decide +kernel
theorem dX10_findRests_1 : decode cX10_findRests 1 = .ok (.istore_n 1, 1) := by decide +kernel
theorem dX10_findRests_2 : decode cX10_findRests 2 = .ok (.iload_n 1, 1) := by decide +kernel
theorem dX10_findRests_3 : decode cX10_findRests 3 = .ok (.bipush 36, 2) := by decide +kernel
theorem dX10_findRests_5 : decode cX10_findRests 5 = .ok (.if_icmp .ge 43, 3) := by decide +kernel
theorem dX10_findRests_8 : decode cX10_findRests 8 = .ok (.iload_n 1, 1) := by decide +kernel
theorem dX10_findRests_9 : decode cX10_findRests 9 = .ok (.bipush 6, 2) := by decide +kernel
theorem dX10_findRests_11 : decode cX10_findRests 11 = .ok (.idiv, 1) := by decide +kernel
theorem dX10_findRests_12 : decode cX10_findRests 12 = .ok (.aload_n 0, 1) := by decide +kernel
theorem dX10_findRests_13 : decode cX10_findRests 13 = .ok (.getfield 75, 3) := by decide +kernel
theorem dX10_findRests_16 : decode cX10_findRests 16 = .ok (.if_icmp .gt 26, 3) := by decide +kernel
theorem dX10_findRests_19 : decode cX10_findRests 19 = .ok (.iload_n 1, 1) := by decide +kernel
theorem dX10_findRests_20 : decode cX10_findRests 20 = .ok (.bipush 6, 2) := by decide +kernel
theorem dX10_findRests_22 : decode cX10_findRests 22 = .ok (.irem, 1) := by decide +kernel
theorem dX10_findRests_23 : decode cX10_findRests 23 = .ok (.aload_n 0, 1) := by decide +kernel
theorem dX10_findRests_24 : decode cX10_findRests 24 = .ok (.getfield 75, 3) := by decide +kernel
theorem dX10_findRests_27 : decode cX10_findRests 27 = .ok (.if_icmp .gt 15, 3) := by decide +kernel
theorem dX10_findRests_30 : decode cX10_findRests 30 = .ok (.aload_n 0, 1) := by decide +kernel
theorem dX10_findRests_31 : decode cX10_findRests 31 = .ok (.iload_n 1, 1) := by decide +kernel
theorem dX10_findRests_32 : decode cX10_findRests 32 = .ok (.bipush 6, 2) := by decide +kernel
theorem dX10_findRests_34 : decode cX10_findRests 34 = .ok (.idiv, 1) := by decide +kernel
theorem dX10_findRests_35 : decode cX10_findRests 35 = .ok (.iload_n 1, 1) := by decide +kernel
theorem dX10_findRests_36 : decode cX10_findRests 36 = .ok (.bipush 6, 2) := by decide +kernel
theorem dX10_findRests_38 : decode cX10_findRests 38 = .ok (.irem, 1) := by decide +kernel
theorem dX10_findRests_39 : decode cX10_findRests 39 = .ok (.invokevirtual 254, 3) := by decide +kernel
theorem dX10_findRests_42 : decode cX10_findRests 42 = .ok (.iinc 1 1, 3) := by decide +kernel
theorem dX10_findRests_45 : decode cX10_findRests 45 = .ok (.goto (-43), 3) := by decide +kernel
theorem dX10_findRests_48 : decode cX10_findRests 48 = .ok (.aload_n 0, 1) := by decide +kernel
theorem dX10_findRests_49 : decode cX10_findRests 49 = .ok (.iconst 0, 1) := by decide +kernel
theorem dX10_findRests_50 : decode cX10_findRests 50 = .ok (.putfield 258, 3) := by decide +kernel
theorem dX10_findRests_53 : decode cX10_findRests 53 = .ok (.aload_n 0, 1) := by decide +kernel
theorem dX10_findRests_54 : decode cX10_findRests 54 = .ok (.bipush (-9), 2) := by decide +kernel
theorem dX10_findRests_56 : decode cX10_findRests 56 = .ok (.putfield 261, 3) := by decide +kernel
theorem dX10_findRests_59 : decode cX10_findRests 59 = .ok (.iconst 0, 1) := by decide +kernel
theorem dX10_findRests_60 : decode cX10_findRests 60 = .ok (.istore_n 1, 1) := by decide +kernel
theorem dX10_findRests_61 : decode cX10_findRests 61 = .ok (.iload_n 1, 1) := by decide +kernel
theorem dX10_findRests_62 : decode cX10_findRests 62 = .ok (.aload_n 0, 1) := by decide +kernel
theorem dX10_findRests_63 : decode cX10_findRests 63 = .ok (.getfield 75, 3) := by decide +kernel
theorem dX10_findRests_66 : decode cX10_findRests 66 = .ok (.if_icmp .gt 165, 3) := by decide +kernel
theorem dX10_findRests_69 : decode cX10_findRests 69 = .ok (.iconst 0, 1) := by decide +kernel
theorem dX10_findRests_70 : decode cX10_findRests 70 = .ok (.istore_n 2, 1) := by decide +kernel
theorem dX10_findRests_71 : decode cX10_findRests 71 = .ok (.iload_n 2, 1) := by decide +kernel
theorem dX10_findRests_72 : decode cX10_findRests 72 = .ok (.aload_n 0, 1) := by decide +kernel
theorem dX10_findRests_73 : decode cX10_findRests 73 = .ok (.getfield 75, 3) := by decide +kernel
theorem dX10_findRests_76 : decode cX10_findRests 76 = .ok (.if_icmp .gt 149, 3) := by decide +kernel
theorem dX10_findRests_79 : decode cX10_findRests 79 = .ok (.iconst 1, 1) := by decide +kernel
theorem dX10_findRests_80 : decode cX10_findRests 80 = .ok (.istore_n 3, 1) := by decide +kernel
theorem dX10_findRests_81 : decode cX10_findRests 81 = .ok (.iconst 0, 1) := by decide +kernel
theorem dX10_findRests_82 : decode cX10_findRests 82 = .ok (.istore 4, 2) := by decide +kernel
theorem dX10_findRests_84 : decode cX10_findRests 84 = .ok (.iload 4, 2) := by decide +kernel
theorem dX10_findRests_86 : decode cX10_findRests 86 = .ok (.aload_n 0, 1) := by decide +kernel
theorem dX10_findRests_87 : decode cX10_findRests 87 = .ok (.getfield 75, 3) := by decide +kernel
theorem dX10_findRests_90 : decode cX10_findRests 90 = .ok (.if_icmp .gt 83, 3) := by decide +kernel
theorem dX10_findRests_93 : decode cX10_findRests 93 = .ok (.iload_n 3, 1) := by decide +kernel
theorem dX10_findRests_94 : decode cX10_findRests 94 = .ok (.ifCond .eq 71, 3) := by decide +kernel
theorem dX10_findRests_97 : decode cX10_findRests 97 = .ok (.aload_n 0, 1) := by decide +kernel
theorem dX10_findRests_98 : decode cX10_findRests 98 = .ok (.getfield 65, 3) := by decide +kernel
theorem dX10_findRests_101 : decode cX10_findRests 101 = .ok (.iconst 2, 1) := by decide +kernel
theorem dX10_findRests_102 : decode cX10_findRests 102 = .ok (.bipush 6, 2) := by decide +kernel
theorem dX10_findRests_104 : decode cX10_findRests 104 = .ok (.iload 4, 2) := by decide +kernel
theorem dX10_findRests_106 : decode cX10_findRests 106 = .ok (.imul, 1) := by decide +kernel
theorem dX10_findRests_107 : decode cX10_findRests 107 = .ok (.iload_n 2, 1) := by decide +kernel
theorem dX10_findRests_108 : decode cX10_findRests 108 = .ok (.iadd, 1) := by decide +kernel
theorem dX10_findRests_109 : decode cX10_findRests 109 = .ok (.imul, 1) := by decide +kernel
theorem dX10_findRests_110 : decode cX10_findRests 110 = .ok (.iaload, 1) := by decide +kernel
theorem dX10_findRests_111 : decode cX10_findRests 111 = .ok (.aload_n 0, 1) := by decide +kernel
theorem dX10_findRests_112 : decode cX10_findRests 112 = .ok (.getfield 65, 3) := by decide +kernel
theorem dX10_findRests_115 : decode cX10_findRests 115 = .ok (.iconst 2, 1) := by decide +kernel
theorem dX10_findRests_116 : decode cX10_findRests 116 = .ok (.bipush 6, 2) := by decide +kernel
theorem dX10_findRests_118 : decode cX10_findRests 118 = .ok (.iload_n 1, 1) := by decide +kernel
theorem dX10_findRests_119 : decode cX10_findRests 119 = .ok (.imul, 1) := by decide +kernel
theorem dX10_findRests_120 : decode cX10_findRests 120 = .ok (.iload_n 2, 1) := by decide +kernel
theorem dX10_findRests_121 : decode cX10_findRests 121 = .ok (.iadd, 1) := by decide +kernel
theorem dX10_findRests_122 : decode cX10_findRests 122 = .ok (.imul, 1) := by decide +kernel
theorem dX10_findRests_123 : decode cX10_findRests 123 = .ok (.iaload, 1) := by decide +kernel
theorem dX10_findRests_124 : decode cX10_findRests 124 = .ok (.if_icmp .gt 41, 3) := by decide +kernel
theorem dX10_findRests_127 : decode cX10_findRests 127 = .ok (.aload_n 0, 1) := by decide +kernel
theorem dX10_findRests_128 : decode cX10_findRests 128 = .ok (.getfield 65, 3) := by decide +kernel
theorem dX10_findRests_131 : decode cX10_findRests 131 = .ok (.iconst 2, 1) := by decide +kernel
theorem dX10_findRests_132 : decode cX10_findRests 132 = .ok (.bipush 6, 2) := by decide +kernel
theorem dX10_findRests_134 : decode cX10_findRests 134 = .ok (.iload_n 1, 1) := by decide +kernel
theorem dX10_findRests_135 : decode cX10_findRests 135 = .ok (.imul, 1) := by decide +kernel
theorem dX10_findRests_136 : decode cX10_findRests 136 = .ok (.iload 4, 2) := by decide +kernel
theorem dX10_findRests_138 : decode cX10_findRests 138 = .ok (.iadd, 1) := by decide +kernel
theorem dX10_findRests_139 : decode cX10_findRests 139 = .ok (.imul, 1) := by decide +kernel
theorem dX10_findRests_140 : decode cX10_findRests 140 = .ok (.iconst 1, 1) := by decide +kernel
theorem dX10_findRests_141 : decode cX10_findRests 141 = .ok (.iadd, 1) := by decide +kernel
theorem dX10_findRests_142 : decode cX10_findRests 142 = .ok (.iaload, 1) := by decide +kernel
theorem dX10_findRests_143 : decode cX10_findRests 143 = .ok (.aload_n 0, 1) := by decide +kernel
theorem dX10_findRests_144 : decode cX10_findRests 144 = .ok (.getfield 65, 3) := by decide +kernel
theorem dX10_findRests_147 : decode cX10_findRests 147 = .ok (.iconst 2, 1) := by decide +kernel
theorem dX10_findRests_148 : decode cX10_findRests 148 = .ok (.bipush 6, 2) := by decide +kernel
theorem dX10_findRests_150 : decode cX10_findRests 150 = .ok (.iload_n 1, 1) := by decide +kernel
theorem dX10_findRests_151 : decode cX10_findRests 151 = .ok (.imul, 1) := by decide +kernel
theorem dX10_findRests_152 : decode cX10_findRests 152 = .ok (.iload_n 2, 1) := by decide +kernel
theorem dX10_findRests_153 : decode cX10_findRests 153 = .ok (.iadd, 1) := by decide +kernel
theorem dX10_findRests_154 : decode cX10_findRests 154 = .ok (.imul, 1) := by decide +kernel
theorem dX10_findRests_155 : decode cX10_findRests 155 = .ok (.iconst 1, 1) := by decide +kernel
theorem dX10_findRests_156 : decode cX10_findRests 156 = .ok (.iadd, 1) := by decide +kernel
theorem dX10_findRests_157 : decode cX10_findRests 157 = .ok (.iaload, 1) := by decide +kernel
theorem dX10_findRests_158 : decode cX10_findRests 158 = .ok (.if_icmp .gt 7, 3) := by decide +kernel
theorem dX10_findRests_161 : decode cX10_findRests 161 = .ok (.iconst 1, 1) := by decide +kernel
theorem dX10_findRests_162 : decode cX10_findRests 162 = .ok (.goto 4, 3) := by decide +kernel
theorem dX10_findRests_165 : decode cX10_findRests 165 = .ok (.iconst 0, 1) := by decide +kernel
theorem dX10_findRests_166 : decode cX10_findRests 166 = .ok (.istore_n 3, 1) := by decide +kernel
theorem dX10_findRests_167 : decode cX10_findRests 167 = .ok (.iinc 4 1, 3) := by decide +kernel
theorem dX10_findRests_170 : decode cX10_findRests 170 = .ok (.goto (-86), 3) := by decide +kernel
theorem dX10_findRests_173 : decode cX10_findRests 173 = .ok (.aload_n 0, 1) := by decide +kernel
theorem dX10_findRests_174 : decode cX10_findRests 174 = .ok (.iload_n 3, 1) := by decide +kernel
theorem dX10_findRests_175 : decode cX10_findRests 175 = .ok (.ifCond .eq 19, 3) := by decide +kernel
theorem dX10_findRests_178 : decode cX10_findRests 178 = .ok (.aload_n 0, 1) := by decide +kernel
theorem dX10_findRests_179 : decode cX10_findRests 179 = .ok (.getfield 258, 3) := by decide +kernel
theorem dX10_findRests_182 : decode cX10_findRests 182 = .ok (.ifCond .ne 12, 3) := by decide +kernel
theorem dX10_findRests_185 : decode cX10_findRests 185 = .ok (.bipush 10, 2) := by decide +kernel
theorem dX10_findRests_187 : decode cX10_findRests 187 = .ok (.iload_n 1, 1) := by decide +kernel
theorem dX10_findRests_188 : decode cX10_findRests 188 = .ok (.imul, 1) := by decide +kernel
theorem dX10_findRests_189 : decode cX10_findRests 189 = .ok (.iload_n 2, 1) := by decide +kernel
theorem dX10_findRests_190 : decode cX10_findRests 190 = .ok (.iadd, 1) := by decide +kernel
theorem dX10_findRests_191 : decode cX10_findRests 191 = .ok (.goto 7, 3) := by decide +kernel
theorem dX10_findRests_194 : decode cX10_findRests 194 = .ok (.aload_n 0, 1) := by decide +kernel
theorem dX10_findRests_195 : decode cX10_findRests 195 = .ok (.getfield 261, 3) := by decide +kernel
theorem dX10_findRests_198 : decode cX10_findRests 198 = .ok (.putfield 261, 3) := by decide +kernel
theorem dX10_findRests_201 : decode cX10_findRests 201 = .ok (.aload_n 0, 1) := by decide +kernel
theorem dX10_findRests_202 : decode cX10_findRests 202 = .ok (.dup, 1) := by decide +kernel
theorem dX10_findRests_203 : decode cX10_findRests 203 = .ok (.getfield 258, 3) := by decide +kernel
theorem dX10_findRests_206 : decode cX10_findRests 206 = .ok (.iload_n 3, 1) := by decide +kernel
theorem dX10_findRests_207 : decode cX10_findRests 207 = .ok (.ifCond .eq 7, 3) := by decide +kernel
theorem dX10_findRests_210 : decode cX10_findRests 210 = .ok (.iconst 1, 1) := by decide +kernel
theorem dX10_findRests_211 : decode cX10_findRests 211 = .ok (.goto 4, 3) := by decide +kernel
theorem dX10_findRests_214 : decode cX10_findRests 214 = .ok (.iconst 0, 1) := by decide +kernel
theorem dX10_findRests_215 : decode cX10_findRests 215 = .ok (.iadd, 1) := by decide +kernel
theorem dX10_findRests_216 : decode cX10_findRests 216 = .ok (.putfield 258, 3) := by decide +kernel
theorem dX10_findRests_219 : decode cX10_findRests 219 = .ok (.iinc 2 1, 3) := by decide +kernel
theorem dX10_findRests_222 : decode cX10_findRests 222 = .ok (.goto (-151), 3) := by decide +kernel
theorem dX10_findRests_225 : decode cX10_findRests 225 = .ok (.iinc 1 1, 3) := by decide +kernel
theorem dX10_findRests_228 : decode cX10_findRests 228 = .ok (.goto (-167), 3) := by decide +kernel
theorem dX10_findRests_231 : decode cX10_findRests 231 = .ok (.return_, 1) := by decide +kernel
theorem dX10_rests_0 : decode cX10_rests 0 = .ok (.aload_n 0, 1) := by decide +kernel
theorem dX10_rests_1 : decode cX10_rests 1 = .ok (.iconst 0, 1) := by decide +kernel
theorem dX10_rests_2 : decode cX10_rests 2 = .ok (.putfield 71, 3) := by decide +kernel
theorem dX10_rests_5 : decode cX10_rests 5 = .ok (.aload_n 0, 1) := by decide +kernel
theorem dX10_rests_6 : decode cX10_rests 6 = .ok (.getfield 82, 3) := by decide +kernel
theorem dX10_rests_9 : decode cX10_rests 9 = .ok (.iconst 2, 1) := by decide +kernel
theorem dX10_rests_10 : decode cX10_rests 10 = .ok (.if_icmp .ge 5, 3) := by decide +kernel
theorem dX10_rests_13 : decode cX10_rests 13 = .ok (.iconst (-1), 1) := by decide +kernel
theorem dX10_rests_14 : decode cX10_rests 14 = .ok (.ireturn, 1) := by decide +kernel
theorem dX10_rests_15 : decode cX10_rests 15 = .ok (.iload_n 1, 1) := by decide +kernel
theorem dX10_rests_16 : decode cX10_rests 16 = .ok (.i2l, 1) := by decide +kernel
theorem dX10_rests_17 : decode cX10_rests 17 = .ok (.lconst 0, 1) := by decide +kernel
theorem dX10_rests_18 : decode cX10_rests 18 = .ok (.lconst 1, 1) := by decide +kernel
theorem dX10_rests_19 : decode cX10_rests 19 = .ok (.invokestatic 78, 3) := by decide +kernel
theorem dX10_rests_22 : decode cX10_rests 22 = .ok (.ifCond .ne 6, 3) := by decide +kernel
theorem dX10_rests_25 : decode cX10_rests 25 = .ok (.bipush (-2), 2) := by decide +kernel
theorem dX10_rests_27 : decode cX10_rests 27 = .ok (.ireturn, 1) := by decide +kernel
theorem dX10_rests_28 : decode cX10_rests 28 = .ok (.aload_n 0, 1) := by decide +kernel
theorem dX10_rests_29 : decode cX10_rests 29 = .ok (.invokevirtual 264, 3) := by decide +kernel
theorem dX10_rests_32 : decode cX10_rests 32 = .ok (.iload_n 1, 1) := by decide +kernel
theorem dX10_rests_33 : decode cX10_rests 33 = .ok (.ifCond .ne 10, 3) := by decide +kernel
theorem dX10_rests_36 : decode cX10_rests 36 = .ok (.aload_n 0, 1) := by decide +kernel
theorem dX10_rests_37 : decode cX10_rests 37 = .ok (.getfield 258, 3) := by decide +kernel
theorem dX10_rests_40 : decode cX10_rests 40 = .ok (.goto 7, 3) := by decide +kernel
theorem dX10_rests_43 : decode cX10_rests 43 = .ok (.aload_n 0, 1) := by decide +kernel
theorem dX10_rests_44 : decode cX10_rests 44 = .ok (.getfield 261, 3) := by decide +kernel
theorem dX10_rests_47 : decode cX10_rests 47 = .ok (.ireturn, 1) := by decide +kernel
theorem dX10_odds_0 : decode cX10_odds 0 = .ok (.aload_n 0, 1) := by decide +kernel
theorem dX10_odds_1 : decode cX10_odds 1 = .ok (.iconst 0, 1) := by decide +kernel
theorem dX10_odds_2 : decode cX10_odds 2 = .ok (.putfield 71, 3) := by decide +kernel
theorem dX10_odds_5 : decode cX10_odds 5 = .ok (.aload_n 0, 1) := by decide +kernel
theorem dX10_odds_6 : decode cX10_odds 6 = .ok (.iload_n 1, 1) := by decide +kernel
theorem dX10_odds_7 : decode cX10_odds 7 = .ok (.invokevirtual 183, 3) := by decide +kernel
theorem dX10_odds_10 : decode cX10_odds 10 = .ok (.ifCond .ne 12, 3) := by decide +kernel
theorem dX10_odds_13 : decode cX10_odds 13 = .ok (.aload_n 0, 1) := by decide +kernel
theorem dX10_odds_14 : decode cX10_odds 14 = .ok (.iload 4, 2) := by decide +kernel
theorem dX10_odds_16 : decode cX10_odds 16 = .ok (.invokevirtual 179, 3) := by decide +kernel
theorem dX10_odds_19 : decode cX10_odds 19 = .ok (.ifCond .eq 5, 3) := by decide +kernel
theorem dX10_odds_22 : decode cX10_odds 22 = .ok (.iconst (-1), 1) := by decide +kernel
theorem dX10_odds_23 : decode cX10_odds 23 = .ok (.ireturn, 1) := by decide +kernel
theorem dX10_odds_24 : decode cX10_odds 24 = .ok (.iload_n 2, 1) := by decide +kernel
theorem dX10_odds_25 : decode cX10_odds 25 = .ok (.i2l, 1) := by decide +kernel
theorem dX10_odds_26 : decode cX10_odds 26 = .ok (.lconst 0, 1) := by decide +kernel
theorem dX10_odds_27 : decode cX10_odds 27 = .ok (.ldc2_w 93, 3) := by decide +kernel
theorem dX10_odds_30 : decode cX10_odds 30 = .ok (.invokestatic 78, 3) := by decide +kernel
theorem dX10_odds_33 : decode cX10_odds 33 = .ok (.ifCond .eq 28, 3) := by decide +kernel
theorem dX10_odds_36 : decode cX10_odds 36 = .ok (.iload_n 3, 1) := by decide +kernel
theorem dX10_odds_37 : decode cX10_odds 37 = .ok (.i2l, 1) := by decide +kernel
theorem dX10_odds_38 : decode cX10_odds 38 = .ok (.lconst 1, 1) := by decide +kernel
theorem dX10_odds_39 : decode cX10_odds 39 = .ok (.ldc2_w 237, 3) := by decide +kernel
theorem dX10_odds_42 : decode cX10_odds 42 = .ok (.invokestatic 78, 3) := by decide +kernel
theorem dX10_odds_45 : decode cX10_odds 45 = .ok (.ifCond .eq 16, 3) := by decide +kernel
theorem dX10_odds_48 : decode cX10_odds 48 = .ok (.iload 5, 2) := by decide +kernel
theorem dX10_odds_50 : decode cX10_odds 50 = .ok (.i2l, 1) := by decide +kernel
theorem dX10_odds_51 : decode cX10_odds 51 = .ok (.lconst 0, 1) := by decide +kernel
theorem dX10_odds_52 : decode cX10_odds 52 = .ok (.ldc2_w 267, 3) := by decide +kernel
theorem dX10_odds_55 : decode cX10_odds 55 = .ok (.invokestatic 78, 3) := by decide +kernel
theorem dX10_odds_58 : decode cX10_odds 58 = .ok (.ifCond .ne 6, 3) := by decide +kernel
theorem dX10_odds_61 : decode cX10_odds 61 = .ok (.bipush (-2), 2) := by decide +kernel
theorem dX10_odds_63 : decode cX10_odds 63 = .ok (.ireturn, 1) := by decide +kernel
theorem dX10_odds_64 : decode cX10_odds 64 = .ok (.iconst 0, 1) := by decide +kernel
theorem dX10_odds_65 : decode cX10_odds 65 = .ok (.istore 7, 2) := by decide +kernel
theorem dX10_odds_67 : decode cX10_odds 67 = .ok (.iconst 0, 1) := by decide +kernel
theorem dX10_odds_68 : decode cX10_odds 68 = .ok (.istore 8, 2) := by decide +kernel
theorem dX10_odds_70 : decode cX10_odds 70 = .ok (.iload 8, 2) := by decide +kernel
theorem dX10_odds_72 : decode cX10_odds 72 = .ok (.iconst 3, 1) := by decide +kernel
theorem dX10_odds_73 : decode cX10_odds 73 = .ok (.iload_n 3, 1) := by decide +kernel
theorem dX10_odds_74 : decode cX10_odds 74 = .ok (.invokestatic 212, 3) := by decide +kernel
theorem dX10_odds_77 : decode cX10_odds 77 = .ok (.if_icmp .ge 117, 3) := by decide +kernel
theorem dX10_odds_80 : decode cX10_odds 80 = .ok (.aload_n 0, 1) := by decide +kernel
theorem dX10_odds_81 : decode cX10_odds 81 = .ok (.getfield 31, 3) := by decide +kernel
theorem dX10_odds_84 : decode cX10_odds 84 = .ok (.aload_n 0, 1) := by decide +kernel
theorem dX10_odds_85 : decode cX10_odds 85 = .ok (.getfield 34, 3) := by decide +kernel
theorem dX10_odds_88 : decode cX10_odds 88 = .ok (.bipush 15, 2) := by decide +kernel
theorem dX10_odds_90 : decode cX10_odds 90 = .ok (.invokestatic 137, 3) := by decide +kernel
theorem dX10_odds_93 : decode cX10_odds 93 = .ok (.iconst 1, 1) := by decide +kernel
theorem dX10_odds_94 : decode cX10_odds 94 = .ok (.istore 9, 2) := by decide +kernel
theorem dX10_odds_96 : decode cX10_odds 96 = .ok (.iconst 0, 1) := by decide +kernel
theorem dX10_odds_97 : decode cX10_odds 97 = .ok (.istore 10, 2) := by decide +kernel
theorem dX10_odds_99 : decode cX10_odds 99 = .ok (.iload 10, 2) := by decide +kernel
theorem dX10_odds_101 : decode cX10_odds 101 = .ok (.iload_n 3, 1) := by decide +kernel
theorem dX10_odds_102 : decode cX10_odds 102 = .ok (.if_icmp .ge 60, 3) := by decide +kernel
theorem dX10_odds_105 : decode cX10_odds 105 = .ok (.iload 8, 2) := by decide +kernel
theorem dX10_odds_107 : decode cX10_odds 107 = .ok (.iconst 3, 1) := by decide +kernel
theorem dX10_odds_108 : decode cX10_odds 108 = .ok (.iload_n 3, 1) := by decide +kernel
theorem dX10_odds_109 : decode cX10_odds 109 = .ok (.iconst 1, 1) := by decide +kernel
theorem dX10_odds_110 : decode cX10_odds 110 = .ok (.isub, 1) := by decide +kernel
theorem dX10_odds_111 : decode cX10_odds 111 = .ok (.iload 10, 2) := by decide +kernel
theorem dX10_odds_113 : decode cX10_odds 113 = .ok (.isub, 1) := by decide +kernel
theorem dX10_odds_114 : decode cX10_odds 114 = .ok (.invokestatic 212, 3) := by decide +kernel
theorem dX10_odds_117 : decode cX10_odds 117 = .ok (.idiv, 1) := by decide +kernel
theorem dX10_odds_118 : decode cX10_odds 118 = .ok (.iconst 3, 1) := by decide +kernel
theorem dX10_odds_119 : decode cX10_odds 119 = .ok (.irem, 1) := by decide +kernel
theorem dX10_odds_120 : decode cX10_odds 120 = .ok (.istore 11, 2) := by decide +kernel
theorem dX10_odds_122 : decode cX10_odds 122 = .ok (.aload_n 0, 1) := by decide +kernel
theorem dX10_odds_123 : decode cX10_odds 123 = .ok (.aload_n 0, 1) := by decide +kernel
theorem dX10_odds_124 : decode cX10_odds 124 = .ok (.getfield 34, 3) := by decide +kernel
theorem dX10_odds_127 : decode cX10_odds 127 = .ok (.iload_n 1, 1) := by decide +kernel
theorem dX10_odds_128 : decode cX10_odds 128 = .ok (.iload_n 2, 1) := by decide +kernel
theorem dX10_odds_129 : decode cX10_odds 129 = .ok (.iload 11, 2) := by decide +kernel
theorem dX10_odds_131 : decode cX10_odds 131 = .ok (.invokevirtual 195, 3) := by decide +kernel
theorem dX10_odds_134 : decode cX10_odds 134 = .ok (.iload 9, 2) := by decide +kernel
theorem dX10_odds_136 : decode cX10_odds 136 = .ok (.iload 11, 2) := by decide +kernel
theorem dX10_odds_138 : decode cX10_odds 138 = .ok (.ifCond .ne 10, 3) := by decide +kernel
theorem dX10_odds_141 : decode cX10_odds 141 = .ok (.iconst 2, 1) := by decide +kernel
theorem dX10_odds_142 : decode cX10_odds 142 = .ok (.iload 5, 2) := by decide +kernel
theorem dX10_odds_144 : decode cX10_odds 144 = .ok (.imul, 1) := by decide +kernel
theorem dX10_odds_145 : decode cX10_odds 145 = .ok (.goto 8, 3) := by decide +kernel
theorem dX10_odds_148 : decode cX10_odds 148 = .ok (.bipush 10, 2) := by decide +kernel
theorem dX10_odds_150 : decode cX10_odds 150 = .ok (.iload 5, 2) := by decide +kernel
theorem dX10_odds_152 : decode cX10_odds 152 = .ok (.isub, 1) := by decide +kernel
theorem dX10_odds_153 : decode cX10_odds 153 = .ok (.imul, 1) := by decide +kernel
theorem dX10_odds_154 : decode cX10_odds 154 = .ok (.istore 9, 2) := by decide +kernel
theorem dX10_odds_156 : decode cX10_odds 156 = .ok (.iinc 10 1, 3) := by decide +kernel
theorem dX10_odds_159 : decode cX10_odds 159 = .ok (.goto (-60), 3) := by decide +kernel
theorem dX10_odds_162 : decode cX10_odds 162 = .ok (.iload 7, 2) := by decide +kernel
theorem dX10_odds_164 : decode cX10_odds 164 = .ok (.aload_n 0, 1) := by decide +kernel
theorem dX10_odds_165 : decode cX10_odds 165 = .ok (.getfield 34, 3) := by decide +kernel
theorem dX10_odds_168 : decode cX10_odds 168 = .ok (.bipush 12, 2) := by decide +kernel
theorem dX10_odds_170 : decode cX10_odds 170 = .ok (.iaload, 1) := by decide +kernel
theorem dX10_odds_171 : decode cX10_odds 171 = .ok (.iload 4, 2) := by decide +kernel
theorem dX10_odds_173 : decode cX10_odds 173 = .ok (.invokestatic 144, 3) := by decide +kernel
theorem dX10_odds_176 : decode cX10_odds 176 = .ok (.ifCond .eq 8, 3) := by decide +kernel
theorem dX10_odds_179 : decode cX10_odds 179 = .ok (.iload 9, 2) := by decide +kernel
theorem dX10_odds_181 : decode cX10_odds 181 = .ok (.goto 4, 3) := by decide +kernel
theorem dX10_odds_184 : decode cX10_odds 184 = .ok (.iconst 0, 1) := by decide +kernel
theorem dX10_odds_185 : decode cX10_odds 185 = .ok (.iadd, 1) := by decide +kernel
theorem dX10_odds_186 : decode cX10_odds 186 = .ok (.istore 7, 2) := by decide +kernel
theorem dX10_odds_188 : decode cX10_odds 188 = .ok (.iinc 8 1, 3) := by decide +kernel
theorem dX10_odds_191 : decode cX10_odds 191 = .ok (.goto (-121), 3) := by decide +kernel
theorem dX10_odds_194 : decode cX10_odds 194 = .ok (.iload 7, 2) := by decide +kernel
theorem dX10_odds_196 : decode cX10_odds 196 = .ok (.bipush 20, 2) := by decide +kernel
theorem dX10_odds_198 : decode cX10_odds 198 = .ok (.iload_n 3, 1) := by decide +kernel
theorem dX10_odds_199 : decode cX10_odds 199 = .ok (.invokestatic 212, 3) := by decide +kernel
theorem dX10_odds_202 : decode cX10_odds 202 = .ok (.iload 6, 2) := by decide +kernel
theorem dX10_odds_204 : decode cX10_odds 204 = .ok (.invokestatic 248, 3) := by decide +kernel
theorem dX10_odds_207 : decode cX10_odds 207 = .ok (.ireturn, 1) := by decide +kernel
theorem dX10_seed_0 : decode cX10_seed 0 = .ok (.aload_n 0, 1) := by decide +kernel
theorem dX10_seed_1 : decode cX10_seed 1 = .ok (.iconst 0, 1) := by decide +kernel
theorem dX10_seed_2 : decode cX10_seed 2 = .ok (.putfield 71, 3) := by decide +kernel
theorem dX10_seed_5 : decode cX10_seed 5 = .ok (.aload_n 0, 1) := by decide +kernel
theorem dX10_seed_6 : decode cX10_seed 6 = .ok (.getfield 269, 3) := by decide +kernel
theorem dX10_seed_9 : decode cX10_seed 9 = .ok (.lstore_n 3, 1) := by decide +kernel
theorem dX10_seed_10 : decode cX10_seed 10 = .ok (.aload_n 0, 1) := by decide +kernel
theorem dX10_seed_11 : decode cX10_seed 11 = .ok (.lload_n 1, 1) := by decide +kernel
theorem dX10_seed_12 : decode cX10_seed 12 = .ok (.putfield 269, 3) := by decide +kernel
theorem dX10_seed_15 : decode cX10_seed 15 = .ok (.lload_n 3, 1) := by decide +kernel
theorem dX10_seed_16 : decode cX10_seed 16 = .ok (.lreturn, 1) := by decide +kernel
theorem dX10_fairs_0 : decode cX10_fairs 0 = .ok (.aload_n 0, 1) := by decide +kernel
theorem dX10_fairs_1 : decode cX10_fairs 1 = .ok (.iconst 0, 1) := by decide +kernel
theorem dX10_fairs_2 : decode cX10_fairs 2 = .ok (.putfield 71, 3) := by decide +kernel
theorem dX10_fairs_5 : decode cX10_fairs 5 = .ok (.iload_n 1, 1) := by decide +kernel
theorem dX10_fairs_6 : decode cX10_fairs 6 = .ok (.i2l, 1) := by decide +kernel
theorem dX10_fairs_7 : decode cX10_fairs 7 = .ok (.lconst 1, 1) := by decide +kernel
theorem dX10_fairs_8 : decode cX10_fairs 8 = .ok (.ldc2_w 273, 3) := by decide +kernel
theorem dX10_fairs_11 : decode cX10_fairs 11 = .ok (.invokestatic 78, 3) := by decide +kernel
theorem dX10_fairs_14 : decode cX10_fairs 14 = .ok (.ifCond .ne 6, 3) := by decide +kernel
theorem dX10_fairs_17 : decode cX10_fairs 17 = .ok (.bipush (-2), 2) := by decide +kernel
theorem dX10_fairs_19 : decode cX10_fairs 19 = .ok (.ireturn, 1) := by decide +kernel
theorem dX10_fairs_20 : decode cX10_fairs 20 = .ok (.aload_n 0, 1) := by decide +kernel
theorem dX10_fairs_21 : decode cX10_fairs 21 = .ok (.getfield 31, 3) := by decide +kernel
theorem dX10_fairs_24 : decode cX10_fairs 24 = .ok (.aload_n 0, 1) := by decide +kernel
theorem dX10_fairs_25 : decode cX10_fairs 25 = .ok (.getfield 34, 3) := by decide +kernel
theorem dX10_fairs_28 : decode cX10_fairs 28 = .ok (.bipush 15, 2) := by decide +kernel
theorem dX10_fairs_30 : decode cX10_fairs 30 = .ok (.invokestatic 137, 3) := by decide +kernel
theorem dX10_fairs_33 : decode cX10_fairs 33 = .ok (.iconst 0, 1) := by decide +kernel
theorem dX10_fairs_34 : decode cX10_fairs 34 = .ok (.istore_n 2, 1) := by decide +kernel
theorem dX10_fairs_35 : decode cX10_fairs 35 = .ok (.iconst 0, 1) := by decide +kernel
theorem dX10_fairs_36 : decode cX10_fairs 36 = .ok (.istore_n 3, 1) := by decide +kernel
theorem dX10_fairs_37 : decode cX10_fairs 37 = .ok (.iload_n 3, 1) := by decide +kernel
theorem dX10_fairs_38 : decode cX10_fairs 38 = .ok (.iload_n 1, 1) := by decide +kernel
theorem dX10_fairs_39 : decode cX10_fairs 39 = .ok (.if_icmp .ge 88, 3) := by decide +kernel
theorem dX10_fairs_42 : decode cX10_fairs 42 = .ok (.aload_n 0, 1) := by decide +kernel
theorem dX10_fairs_43 : decode cX10_fairs 43 = .ok (.aload_n 0, 1) := by decide +kernel
theorem dX10_fairs_44 : decode cX10_fairs 44 = .ok (.getfield 269, 3) := by decide +kernel
theorem dX10_fairs_47 : decode cX10_fairs 47 = .ok (.ldc2_w 275, 3) := by decide +kernel
theorem dX10_fairs_50 : decode cX10_fairs 50 = .ok (.lmul, 1) := by decide +kernel
theorem dX10_fairs_51 : decode cX10_fairs 51 = .ok (.ldc2_w 277, 3) := by decide +kernel
theorem dX10_fairs_54 : decode cX10_fairs 54 = .ok (.ladd, 1) := by decide +kernel
theorem dX10_fairs_55 : decode cX10_fairs 55 = .ok (.putfield 269, 3) := by decide +kernel
theorem dX10_fairs_58 : decode cX10_fairs 58 = .ok (.aload_n 0, 1) := by decide +kernel
theorem dX10_fairs_59 : decode cX10_fairs 59 = .ok (.getfield 269, 3) := by decide +kernel
theorem dX10_fairs_62 : decode cX10_fairs 62 = .ok (.bipush 33, 2) := by decide +kernel
theorem dX10_fairs_64 : decode cX10_fairs 64 = .ok (.lushr, 1) := by decide +kernel
theorem dX10_fairs_65 : decode cX10_fairs 65 = .ok (.ldc2_w 279, 3) := by decide +kernel
theorem dX10_fairs_68 : decode cX10_fairs 68 = .ok (.lrem, 1) := by decide +kernel
theorem dX10_fairs_69 : decode cX10_fairs 69 = .ok (.l2i, 1) := by decide +kernel
theorem dX10_fairs_70 : decode cX10_fairs 70 = .ok (.istore 4, 2) := by decide +kernel
theorem dX10_fairs_72 : decode cX10_fairs 72 = .ok (.aload_n 0, 1) := by decide +kernel
theorem dX10_fairs_73 : decode cX10_fairs 73 = .ok (.iload 4, 2) := by decide +kernel
theorem dX10_fairs_75 : decode cX10_fairs 75 = .ok (.bipush 24, 2) := by decide +kernel
theorem dX10_fairs_77 : decode cX10_fairs 77 = .ok (.idiv, 1) := by decide +kernel
theorem dX10_fairs_78 : decode cX10_fairs 78 = .ok (.invokevirtual 183, 3) := by decide +kernel
theorem dX10_fairs_81 : decode cX10_fairs 81 = .ok (.ifCond .ne 27, 3) := by decide +kernel
theorem dX10_fairs_84 : decode cX10_fairs 84 = .ok (.aload_n 0, 1) := by decide +kernel
theorem dX10_fairs_85 : decode cX10_fairs 85 = .ok (.aload_n 0, 1) := by decide +kernel
theorem dX10_fairs_86 : decode cX10_fairs 86 = .ok (.getfield 34, 3) := by decide +kernel
theorem dX10_fairs_89 : decode cX10_fairs 89 = .ok (.iload 4, 2) := by decide +kernel
theorem dX10_fairs_91 : decode cX10_fairs 91 = .ok (.bipush 24, 2) := by decide +kernel
theorem dX10_fairs_93 : decode cX10_fairs 93 = .ok (.idiv, 1) := by decide +kernel
theorem dX10_fairs_94 : decode cX10_fairs 94 = .ok (.iload 4, 2) := by decide +kernel
theorem dX10_fairs_96 : decode cX10_fairs 96 = .ok (.bipush 24, 2) := by decide +kernel
theorem dX10_fairs_98 : decode cX10_fairs 98 = .ok (.irem, 1) := by decide +kernel
theorem dX10_fairs_99 : decode cX10_fairs 99 = .ok (.iconst 3, 1) := by decide +kernel
theorem dX10_fairs_100 : decode cX10_fairs 100 = .ok (.idiv, 1) := by decide +kernel
theorem dX10_fairs_101 : decode cX10_fairs 101 = .ok (.iload 4, 2) := by decide +kernel
theorem dX10_fairs_103 : decode cX10_fairs 103 = .ok (.iconst 3, 1) := by decide +kernel
theorem dX10_fairs_104 : decode cX10_fairs 104 = .ok (.irem, 1) := by decide +kernel
theorem dX10_fairs_105 : decode cX10_fairs 105 = .ok (.invokevirtual 195, 3) := by decide +kernel
theorem dX10_fairs_108 : decode cX10_fairs 108 = .ok (.iload_n 2, 1) := by decide +kernel
theorem dX10_fairs_109 : decode cX10_fairs 109 = .ok (.aload_n 0, 1) := by decide +kernel
theorem dX10_fairs_110 : decode cX10_fairs 110 = .ok (.getfield 34, 3) := by decide +kernel
theorem dX10_fairs_113 : decode cX10_fairs 113 = .ok (.bipush 12, 2) := by decide +kernel
theorem dX10_fairs_115 : decode cX10_fairs 115 = .ok (.iaload, 1) := by decide +kernel
theorem dX10_fairs_116 : decode cX10_fairs 116 = .ok (.invokestatic 228, 3) := by decide +kernel
theorem dX10_fairs_119 : decode cX10_fairs 119 = .ok (.iadd, 1) := by decide +kernel
theorem dX10_fairs_120 : decode cX10_fairs 120 = .ok (.istore_n 2, 1) := by decide +kernel
theorem dX10_fairs_121 : decode cX10_fairs 121 = .ok (.iinc 3 1, 3) := by decide +kernel
theorem dX10_fairs_124 : decode cX10_fairs 124 = .ok (.goto (-87), 3) := by decide +kernel
theorem dX10_fairs_127 : decode cX10_fairs 127 = .ok (.iload_n 2, 1) := by decide +kernel
theorem dX10_fairs_128 : decode cX10_fairs 128 = .ok (.ireturn, 1) := by decide +kernel
theorem dX10_keep_0 : decode cX10_keep 0 = .ok (.aload_n 0, 1) := by decide +kernel
theorem dX10_keep_1 : decode cX10_keep 1 = .ok (.iconst 0, 1) := by decide +kernel
theorem dX10_keep_2 : decode cX10_keep 2 = .ok (.putfield 71, 3) := by decide +kernel
theorem dX10_keep_5 : decode cX10_keep 5 = .ok (.iload_n 1, 1) := by decide +kernel
theorem dX10_keep_6 : decode cX10_keep 6 = .ok (.i2l, 1) := by decide +kernel
theorem dX10_keep_7 : decode cX10_keep 7 = .ok (.lconst 0, 1) := by decide +kernel
theorem dX10_keep_8 : decode cX10_keep 8 = .ok (.lconst 1, 1) := by decide +kernel
theorem dX10_keep_9 : decode cX10_keep 9 = .ok (.invokestatic 78, 3) := by decide +kernel
theorem dX10_keep_12 : decode cX10_keep 12 = .ok (.ifCond .ne 5, 3) := by decide +kernel
theorem dX10_keep_15 : decode cX10_keep 15 = .ok (.iconst (-1), 1) := by decide +kernel
theorem dX10_keep_16 : decode cX10_keep 16 = .ok (.ireturn, 1) := by decide +kernel
theorem dX10_keep_17 : decode cX10_keep 17 = .ok (.aload_n 0, 1) := by decide +kernel
theorem dX10_keep_18 : decode cX10_keep 18 = .ok (.getfield 46, 3) := by decide +kernel
theorem dX10_keep_21 : decode cX10_keep 21 = .ok (.iload_n 1, 1) := by decide +kernel
theorem dX10_keep_22 : decode cX10_keep 22 = .ok (.iconst 1, 1) := by decide +kernel
theorem dX10_keep_23 : decode cX10_keep 23 = .ok (.bastore, 1) := by decide +kernel
theorem dX10_keep_24 : decode cX10_keep 24 = .ok (.iconst 0, 1) := by decide +kernel
theorem dX10_keep_25 : decode cX10_keep 25 = .ok (.istore_n 2, 1) := by decide +kernel
theorem dX10_keep_26 : decode cX10_keep 26 = .ok (.iload_n 2, 1) := by decide +kernel
theorem dX10_keep_27 : decode cX10_keep 27 = .ok (.bipush 15, 2) := by decide +kernel
theorem dX10_keep_29 : decode cX10_keep 29 = .ok (.if_icmp .ge 26, 3) := by decide +kernel
theorem dX10_keep_32 : decode cX10_keep 32 = .ok (.aload_n 0, 1) := by decide +kernel
theorem dX10_keep_33 : decode cX10_keep 33 = .ok (.getfield 43, 3) := by decide +kernel
theorem dX10_keep_36 : decode cX10_keep 36 = .ok (.bipush 15, 2) := by decide +kernel
theorem dX10_keep_38 : decode cX10_keep 38 = .ok (.iload_n 1, 1) := by decide +kernel
theorem dX10_keep_39 : decode cX10_keep 39 = .ok (.imul, 1) := by decide +kernel
theorem dX10_keep_40 : decode cX10_keep 40 = .ok (.iload_n 2, 1) := by decide +kernel
theorem dX10_keep_41 : decode cX10_keep 41 = .ok (.iadd, 1) := by decide +kernel
theorem dX10_keep_42 : decode cX10_keep 42 = .ok (.aload_n 0, 1) := by decide +kernel
theorem dX10_keep_43 : decode cX10_keep 43 = .ok (.getfield 31, 3) := by decide +kernel
theorem dX10_keep_46 : decode cX10_keep 46 = .ok (.iload_n 2, 1) := by decide +kernel
theorem dX10_keep_47 : decode cX10_keep 47 = .ok (.iaload, 1) := by decide +kernel
theorem dX10_keep_48 : decode cX10_keep 48 = .ok (.iastore, 1) := by decide +kernel
theorem dX10_keep_49 : decode cX10_keep 49 = .ok (.iinc 2 1, 3) := by decide +kernel
theorem dX10_keep_52 : decode cX10_keep 52 = .ok (.goto (-26), 3) := by decide +kernel
theorem dX10_keep_55 : decode cX10_keep 55 = .ok (.aload_n 0, 1) := by decide +kernel
theorem dX10_keep_56 : decode cX10_keep 56 = .ok (.getfield 31, 3) := by decide +kernel
theorem dX10_keep_59 : decode cX10_keep 59 = .ok (.bipush 12, 2) := by decide +kernel
theorem dX10_keep_61 : decode cX10_keep 61 = .ok (.iaload, 1) := by decide +kernel
theorem dX10_keep_62 : decode cX10_keep 62 = .ok (.invokestatic 228, 3) := by decide +kernel
theorem dX10_keep_65 : decode cX10_keep 65 = .ok (.ireturn, 1) := by decide +kernel
theorem dX10_again_0 : decode cX10_again 0 = .ok (.aload_n 0, 1) := by decide +kernel
theorem dX10_again_1 : decode cX10_again 1 = .ok (.iconst 0, 1) := by decide +kernel
theorem dX10_again_2 : decode cX10_again 2 = .ok (.putfield 71, 3) := by decide +kernel
theorem dX10_again_5 : decode cX10_again 5 = .ok (.iload_n 1, 1) := by decide +kernel
theorem dX10_again_6 : decode cX10_again 6 = .ok (.i2l, 1) := by decide +kernel
theorem dX10_again_7 : decode cX10_again 7 = .ok (.lconst 0, 1) := by decide +kernel
theorem dX10_again_8 : decode cX10_again 8 = .ok (.lconst 1, 1) := by decide +kernel
theorem dX10_again_9 : decode cX10_again 9 = .ok (.invokestatic 78, 3) := by decide +kernel
theorem dX10_again_12 : decode cX10_again 12 = .ok (.ifCond .ne 5, 3) := by decide +kernel
theorem dX10_again_15 : decode cX10_again 15 = .ok (.iconst (-1), 1) := by decide +kernel
theorem dX10_again_16 : decode cX10_again 16 = .ok (.ireturn, 1) := by decide +kernel
theorem dX10_again_17 : decode cX10_again 17 = .ok (.aload_n 0, 1) := by decide +kernel
theorem dX10_again_18 : decode cX10_again 18 = .ok (.getfield 46, 3) := by decide +kernel
theorem dX10_again_21 : decode cX10_again 21 = .ok (.iload_n 1, 1) := by decide +kernel
theorem dX10_again_22 : decode cX10_again 22 = .ok (.baload, 1) := by decide +kernel
theorem dX10_again_23 : decode cX10_again 23 = .ok (.ifCond .ne 6, 3) := by decide +kernel
theorem dX10_again_26 : decode cX10_again 26 = .ok (.bipush (-3), 2) := by decide +kernel
theorem dX10_again_28 : decode cX10_again 28 = .ok (.ireturn, 1) := by decide +kernel
theorem dX10_again_29 : decode cX10_again 29 = .ok (.iconst 0, 1) := by decide +kernel
theorem dX10_again_30 : decode cX10_again 30 = .ok (.istore_n 2, 1) := by decide +kernel
theorem dX10_again_31 : decode cX10_again 31 = .ok (.iload_n 2, 1) := by decide +kernel
theorem dX10_again_32 : decode cX10_again 32 = .ok (.bipush 15, 2) := by decide +kernel
theorem dX10_again_34 : decode cX10_again 34 = .ok (.if_icmp .ge 26, 3) := by decide +kernel
theorem dX10_again_37 : decode cX10_again 37 = .ok (.aload_n 0, 1) := by decide +kernel
theorem dX10_again_38 : decode cX10_again 38 = .ok (.getfield 31, 3) := by decide +kernel
theorem dX10_again_41 : decode cX10_again 41 = .ok (.iload_n 2, 1) := by decide +kernel
theorem dX10_again_42 : decode cX10_again 42 = .ok (.aload_n 0, 1) := by decide +kernel
theorem dX10_again_43 : decode cX10_again 43 = .ok (.getfield 43, 3) := by decide +kernel
theorem dX10_again_46 : decode cX10_again 46 = .ok (.bipush 15, 2) := by decide +kernel
theorem dX10_again_48 : decode cX10_again 48 = .ok (.iload_n 1, 1) := by decide +kernel
theorem dX10_again_49 : decode cX10_again 49 = .ok (.imul, 1) := by decide +kernel
theorem dX10_again_50 : decode cX10_again 50 = .ok (.iload_n 2, 1) := by decide +kernel
theorem dX10_again_51 : decode cX10_again 51 = .ok (.iadd, 1) := by decide +kernel
theorem dX10_again_52 : decode cX10_again 52 = .ok (.iaload, 1) := by decide +kernel
theorem dX10_again_53 : decode cX10_again 53 = .ok (.iastore, 1) := by decide +kernel
theorem dX10_again_54 : decode cX10_again 54 = .ok (.iinc 2 1, 3) := by decide +kernel
theorem dX10_again_57 : decode cX10_again 57 = .ok (.goto (-26), 3) := by decide +kernel
theorem dX10_again_60 : decode cX10_again 60 = .ok (.aload_n 0, 1) := by decide +kernel
theorem dX10_again_61 : decode cX10_again 61 = .ok (.iconst 0, 1) := by decide +kernel
theorem dX10_again_62 : decode cX10_again 62 = .ok (.putfield 141, 3) := by decide +kernel
theorem dX10_again_65 : decode cX10_again 65 = .ok (.aload_n 0, 1) := by decide +kernel
theorem dX10_again_66 : decode cX10_again 66 = .ok (.getfield 31, 3) := by decide +kernel
theorem dX10_again_69 : decode cX10_again 69 = .ok (.bipush 12, 2) := by decide +kernel
theorem dX10_again_71 : decode cX10_again 71 = .ok (.iaload, 1) := by decide +kernel
theorem dX10_again_72 : decode cX10_again 72 = .ok (.invokestatic 228, 3) := by decide +kernel
theorem dX10_again_75 : decode cX10_again 75 = .ok (.ireturn, 1) := by decide +kernel
theorem dJ6_bitCount_0f7a4_0 : decode cJ6_bitCount_0f7a4 0 = .ok (.iload_n 0, 1) := by decide +kernel
theorem dJ6_bitCount_0f7a4_1 : decode cJ6_bitCount_0f7a4 1 = .ok (.iload_n 0, 1) := by decide +kernel
theorem dJ6_bitCount_0f7a4_2 : decode cJ6_bitCount_0f7a4 2 = .ok (.iconst 1, 1) := by decide +kernel
theorem dJ6_bitCount_0f7a4_3 : decode cJ6_bitCount_0f7a4 3 = .ok (.iushr, 1) := by decide +kernel
theorem dJ6_bitCount_0f7a4_4 : decode cJ6_bitCount_0f7a4 4 = .ok (.ldc_w 265, 3) := by decide +kernel
theorem dJ6_bitCount_0f7a4_7 : decode cJ6_bitCount_0f7a4 7 = .ok (.iand, 1) := by decide +kernel
theorem dJ6_bitCount_0f7a4_8 : decode cJ6_bitCount_0f7a4 8 = .ok (.isub, 1) := by decide +kernel
theorem dJ6_bitCount_0f7a4_9 : decode cJ6_bitCount_0f7a4 9 = .ok (.istore_n 0, 1) := by decide +kernel
theorem dJ6_bitCount_0f7a4_10 : decode cJ6_bitCount_0f7a4 10 = .ok (.iload_n 0, 1) := by decide +kernel
theorem dJ6_bitCount_0f7a4_11 : decode cJ6_bitCount_0f7a4 11 = .ok (.ldc_w 266, 3) := by decide +kernel
theorem dJ6_bitCount_0f7a4_14 : decode cJ6_bitCount_0f7a4 14 = .ok (.iand, 1) := by decide +kernel
theorem dJ6_bitCount_0f7a4_15 : decode cJ6_bitCount_0f7a4 15 = .ok (.iload_n 0, 1) := by decide +kernel
theorem dJ6_bitCount_0f7a4_16 : decode cJ6_bitCount_0f7a4 16 = .ok (.iconst 2, 1) := by decide +kernel
theorem dJ6_bitCount_0f7a4_17 : decode cJ6_bitCount_0f7a4 17 = .ok (.iushr, 1) := by decide +kernel
theorem dJ6_bitCount_0f7a4_18 : decode cJ6_bitCount_0f7a4 18 = .ok (.ldc_w 266, 3) := by decide +kernel
theorem dJ6_bitCount_0f7a4_21 : decode cJ6_bitCount_0f7a4 21 = .ok (.iand, 1) := by decide +kernel
theorem dJ6_bitCount_0f7a4_22 : decode cJ6_bitCount_0f7a4 22 = .ok (.iadd, 1) := by decide +kernel
theorem dJ6_bitCount_0f7a4_23 : decode cJ6_bitCount_0f7a4 23 = .ok (.istore_n 0, 1) := by decide +kernel
theorem dJ6_bitCount_0f7a4_24 : decode cJ6_bitCount_0f7a4 24 = .ok (.iload_n 0, 1) := by decide +kernel
theorem dJ6_bitCount_0f7a4_25 : decode cJ6_bitCount_0f7a4 25 = .ok (.iload_n 0, 1) := by decide +kernel
theorem dJ6_bitCount_0f7a4_26 : decode cJ6_bitCount_0f7a4 26 = .ok (.iconst 4, 1) := by decide +kernel
theorem dJ6_bitCount_0f7a4_27 : decode cJ6_bitCount_0f7a4 27 = .ok (.iushr, 1) := by decide +kernel
theorem dJ6_bitCount_0f7a4_28 : decode cJ6_bitCount_0f7a4 28 = .ok (.iadd, 1) := by decide +kernel
theorem dJ6_bitCount_0f7a4_29 : decode cJ6_bitCount_0f7a4 29 = .ok (.ldc_w 267, 3) := by decide +kernel
theorem dJ6_bitCount_0f7a4_32 : decode cJ6_bitCount_0f7a4 32 = .ok (.iand, 1) := by decide +kernel
theorem dJ6_bitCount_0f7a4_33 : decode cJ6_bitCount_0f7a4 33 = .ok (.istore_n 0, 1) := by decide +kernel
theorem dJ6_bitCount_0f7a4_34 : decode cJ6_bitCount_0f7a4 34 = .ok (.iload_n 0, 1) := by decide +kernel
theorem dJ6_bitCount_0f7a4_35 : decode cJ6_bitCount_0f7a4 35 = .ok (.iload_n 0, 1) := by decide +kernel
theorem dJ6_bitCount_0f7a4_36 : decode cJ6_bitCount_0f7a4 36 = .ok (.bipush 8, 2) := by decide +kernel
theorem dJ6_bitCount_0f7a4_38 : decode cJ6_bitCount_0f7a4 38 = .ok (.iushr, 1) := by decide +kernel
theorem dJ6_bitCount_0f7a4_39 : decode cJ6_bitCount_0f7a4 39 = .ok (.iadd, 1) := by decide +kernel
theorem dJ6_bitCount_0f7a4_40 : decode cJ6_bitCount_0f7a4 40 = .ok (.istore_n 0, 1) := by decide +kernel
theorem dJ6_bitCount_0f7a4_41 : decode cJ6_bitCount_0f7a4 41 = .ok (.iload_n 0, 1) := by decide +kernel
theorem dJ6_bitCount_0f7a4_42 : decode cJ6_bitCount_0f7a4 42 = .ok (.iload_n 0, 1) := by decide +kernel
theorem dJ6_bitCount_0f7a4_43 : decode cJ6_bitCount_0f7a4 43 = .ok (.bipush 16, 2) := by decide +kernel
theorem dJ6_bitCount_0f7a4_45 : decode cJ6_bitCount_0f7a4 45 = .ok (.iushr, 1) := by decide +kernel
theorem dJ6_bitCount_0f7a4_46 : decode cJ6_bitCount_0f7a4 46 = .ok (.iadd, 1) := by decide +kernel
theorem dJ6_bitCount_0f7a4_47 : decode cJ6_bitCount_0f7a4 47 = .ok (.istore_n 0, 1) := by decide +kernel
theorem dJ6_bitCount_0f7a4_48 : decode cJ6_bitCount_0f7a4 48 = .ok (.iload_n 0, 1) := by decide +kernel
theorem dJ6_bitCount_0f7a4_49 : decode cJ6_bitCount_0f7a4 49 = .ok (.bipush 63, 2) := by decide +kernel
theorem dJ6_bitCount_0f7a4_51 : decode cJ6_bitCount_0f7a4 51 = .ok (.iand, 1) := by decide +kernel
theorem dJ6_bitCount_0f7a4_52 : decode cJ6_bitCount_0f7a4 52 = .ok (.ireturn, 1) := by decide +kernel
theorem dJ9_max_7cf53_0 : decode cJ9_max_7cf53 0 = .ok (.iload_n 0, 1) := by decide +kernel
theorem dJ9_max_7cf53_1 : decode cJ9_max_7cf53 1 = .ok (.iload_n 1, 1) := by decide +kernel
theorem dJ9_max_7cf53_2 : decode cJ9_max_7cf53 2 = .ok (.if_icmp .lt 7, 3) := by decide +kernel
theorem dJ9_max_7cf53_5 : decode cJ9_max_7cf53 5 = .ok (.iload_n 0, 1) := by decide +kernel
theorem dJ9_max_7cf53_6 : decode cJ9_max_7cf53 6 = .ok (.goto 4, 3) := by decide +kernel
theorem dJ9_max_7cf53_9 : decode cJ9_max_7cf53 9 = .ok (.iload_n 1, 1) := by decide +kernel
theorem dJ9_max_7cf53_10 : decode cJ9_max_7cf53 10 = .ok (.ireturn, 1) := by decide +kernel
theorem dJ9_min_7cf53_0 : decode cJ9_min_7cf53 0 = .ok (.iload_n 0, 1) := by decide +kernel
theorem dJ9_min_7cf53_1 : decode cJ9_min_7cf53 1 = .ok (.iload_n 1, 1) := by decide +kernel
theorem dJ9_min_7cf53_2 : decode cJ9_min_7cf53 2 = .ok (.if_icmp .gt 7, 3) := by decide +kernel
theorem dJ9_min_7cf53_5 : decode cJ9_min_7cf53 5 = .ok (.iload_n 0, 1) := by decide +kernel
theorem dJ9_min_7cf53_6 : decode cJ9_min_7cf53 6 = .ok (.goto 4, 3) := by decide +kernel
theorem dJ9_min_7cf53_9 : decode cJ9_min_7cf53 9 = .ok (.iload_n 1, 1) := by decide +kernel
theorem dJ9_min_7cf53_10 : decode cJ9_min_7cf53 10 = .ok (.ireturn, 1) := by decide +kernel
theorem dL_law_0 : decode cL_law 0 = .ok (.new 7, 3) := by decide +kernel
theorem dL_law_3 : decode cL_law 3 = .ok (.dup, 1) := by decide +kernel
theorem dL_law_4 : decode cL_law 4 = .ok (.invokespecial 9, 3) := by decide +kernel
theorem dL_law_7 : decode cL_law 7 = .ok (.astore_n 1, 1) := by decide +kernel
theorem dL_law_8 : decode cL_law 8 = .ok (.new 10, 3) := by decide +kernel
theorem dL_law_11 : decode cL_law 11 = .ok (.dup, 1) := by decide +kernel
theorem dL_law_12 : decode cL_law 12 = .ok (.invokespecial 12, 3) := by decide +kernel
theorem dL_law_15 : decode cL_law 15 = .ok (.astore_n 2, 1) := by decide +kernel
theorem dL_law_16 : decode cL_law 16 = .ok (.iconst 0, 1) := by decide +kernel
theorem dL_law_17 : decode cL_law 17 = .ok (.istore_n 3, 1) := by decide +kernel
theorem dL_law_18 : decode cL_law 18 = .ok (.iload_n 3, 1) := by decide +kernel
theorem dL_law_19 : decode cL_law 19 = .ok (.aload_n 0, 1) := by decide +kernel
theorem dL_law_20 : decode cL_law 20 = .ok (.arraylength, 1) := by decide +kernel
theorem dL_law_21 : decode cL_law 21 = .ok (.bipush 7, 2) := by decide +kernel
theorem dL_law_23 : decode cL_law 23 = .ok (.isub, 1) := by decide +kernel
theorem dL_law_24 : decode cL_law 24 = .ok (.if_icmp .gt 1067, 3) := by decide +kernel
theorem dL_law_27 : decode cL_law 27 = .ok (.aload_n 0, 1) := by decide +kernel
theorem dL_law_28 : decode cL_law 28 = .ok (.iload_n 3, 1) := by decide +kernel
theorem dL_law_29 : decode cL_law 29 = .ok (.iaload, 1) := by decide +kernel
theorem dL_law_30 : decode cL_law 30 = .ok (.bipush 31, 2) := by decide +kernel
theorem dL_law_32 : decode cL_law 32 = .ok (.iand, 1) := by decide +kernel
theorem dL_law_33 : decode cL_law 33 = .ok (.tableswitch 1052 0 29 #[135, 158, 171, 184, 197, 220, 253, 286, 329, 372, 395, 418, 431, 454, 467, 510, 559, 592, 631, 654, 687, 736, 779, 792, 815, 838, 929, 983, 1006, 1029], 135) := by decide +kernel
theorem dL_law_168 : decode cL_law 168 = .ok (.aload_n 1, 1) := by decide +kernel
theorem dL_law_169 : decode cL_law 169 = .ok (.aload_n 0, 1) := by decide +kernel
theorem dL_law_170 : decode cL_law 170 = .ok (.iload_n 3, 1) := by decide +kernel
theorem dL_law_171 : decode cL_law 171 = .ok (.iconst 1, 1) := by decide +kernel
theorem dL_law_172 : decode cL_law 172 = .ok (.iadd, 1) := by decide +kernel
theorem dL_law_173 : decode cL_law 173 = .ok (.iaload, 1) := by decide +kernel
theorem dL_law_174 : decode cL_law 174 = .ok (.invokevirtual 13, 3) := by decide +kernel
theorem dL_law_177 : decode cL_law 177 = .ok (.aload_n 2, 1) := by decide +kernel
theorem dL_law_178 : decode cL_law 178 = .ok (.aload_n 0, 1) := by decide +kernel
theorem dL_law_179 : decode cL_law 179 = .ok (.iload_n 3, 1) := by decide +kernel
theorem dL_law_180 : decode cL_law 180 = .ok (.iconst 1, 1) := by decide +kernel
theorem dL_law_181 : decode cL_law 181 = .ok (.iadd, 1) := by decide +kernel
theorem dL_law_182 : decode cL_law 182 = .ok (.iaload, 1) := by decide +kernel
theorem dL_law_183 : decode cL_law 183 = .ok (.invokevirtual 17, 3) := by decide +kernel
theorem dL_law_186 : decode cL_law 186 = .ok (.if_icmp .eq 899, 3) := by decide +kernel
theorem dL_law_189 : decode cL_law 189 = .ok (.iconst 0, 1) := by decide +kernel
theorem dL_law_190 : decode cL_law 190 = .ok (.ireturn, 1) := by decide +kernel
theorem dL_law_191 : decode cL_law 191 = .ok (.aload_n 1, 1) := by decide +kernel
theorem dL_law_192 : decode cL_law 192 = .ok (.invokevirtual 18, 3) := by decide +kernel
theorem dL_law_195 : decode cL_law 195 = .ok (.aload_n 2, 1) := by decide +kernel
theorem dL_law_196 : decode cL_law 196 = .ok (.invokevirtual 22, 3) := by decide +kernel
theorem dL_law_199 : decode cL_law 199 = .ok (.if_icmp .eq 886, 3) := by decide +kernel
theorem dL_law_202 : decode cL_law 202 = .ok (.iconst 0, 1) := by decide +kernel
theorem dL_law_203 : decode cL_law 203 = .ok (.ireturn, 1) := by decide +kernel
theorem dL_law_204 : decode cL_law 204 = .ok (.aload_n 1, 1) := by decide +kernel
theorem dL_law_205 : decode cL_law 205 = .ok (.invokevirtual 23, 3) := by decide +kernel
theorem dL_law_208 : decode cL_law 208 = .ok (.aload_n 2, 1) := by decide +kernel
theorem dL_law_209 : decode cL_law 209 = .ok (.invokevirtual 26, 3) := by decide +kernel
theorem dL_law_212 : decode cL_law 212 = .ok (.if_icmp .eq 873, 3) := by decide +kernel
theorem dL_law_215 : decode cL_law 215 = .ok (.iconst 0, 1) := by decide +kernel
theorem dL_law_216 : decode cL_law 216 = .ok (.ireturn, 1) := by decide +kernel
theorem dL_law_217 : decode cL_law 217 = .ok (.aload_n 1, 1) := by decide +kernel
theorem dL_law_218 : decode cL_law 218 = .ok (.invokevirtual 27, 3) := by decide +kernel
theorem dL_law_221 : decode cL_law 221 = .ok (.aload_n 2, 1) := by decide +kernel
theorem dL_law_222 : decode cL_law 222 = .ok (.invokevirtual 30, 3) := by decide +kernel
theorem dL_law_225 : decode cL_law 225 = .ok (.if_icmp .eq 860, 3) := by decide +kernel
theorem dL_law_228 : decode cL_law 228 = .ok (.iconst 0, 1) := by decide +kernel
theorem dL_law_229 : decode cL_law 229 = .ok (.ireturn, 1) := by decide +kernel
theorem dL_law_230 : decode cL_law 230 = .ok (.aload_n 1, 1) := by decide +kernel
theorem dL_law_231 : decode cL_law 231 = .ok (.aload_n 0, 1) := by decide +kernel
theorem dL_law_232 : decode cL_law 232 = .ok (.iload_n 3, 1) := by decide +kernel
theorem dL_law_233 : decode cL_law 233 = .ok (.iconst 1, 1) := by decide +kernel
theorem dL_law_234 : decode cL_law 234 = .ok (.iadd, 1) := by decide +kernel
theorem dL_law_235 : decode cL_law 235 = .ok (.iaload, 1) := by decide +kernel
theorem dL_law_236 : decode cL_law 236 = .ok (.invokevirtual 31, 3) := by decide +kernel
theorem dL_law_239 : decode cL_law 239 = .ok (.aload_n 2, 1) := by decide +kernel
theorem dL_law_240 : decode cL_law 240 = .ok (.aload_n 0, 1) := by decide +kernel
theorem dL_law_241 : decode cL_law 241 = .ok (.iload_n 3, 1) := by decide +kernel
theorem dL_law_242 : decode cL_law 242 = .ok (.iconst 1, 1) := by decide +kernel
theorem dL_law_243 : decode cL_law 243 = .ok (.iadd, 1) := by decide +kernel
theorem dL_law_244 : decode cL_law 244 = .ok (.iaload, 1) := by decide +kernel
theorem dL_law_245 : decode cL_law 245 = .ok (.invokevirtual 34, 3) := by decide +kernel
theorem dL_law_248 : decode cL_law 248 = .ok (.if_icmp .eq 837, 3) := by decide +kernel
theorem dL_law_251 : decode cL_law 251 = .ok (.iconst 0, 1) := by decide +kernel
theorem dL_law_252 : decode cL_law 252 = .ok (.ireturn, 1) := by decide +kernel
theorem dL_law_253 : decode cL_law 253 = .ok (.aload_n 1, 1) := by decide +kernel
theorem dL_law_254 : decode cL_law 254 = .ok (.aload_n 0, 1) := by decide +kernel
theorem dL_law_255 : decode cL_law 255 = .ok (.iload_n 3, 1) := by decide +kernel
theorem dL_law_256 : decode cL_law 256 = .ok (.iconst 1, 1) := by decide +kernel
theorem dL_law_257 : decode cL_law 257 = .ok (.iadd, 1) := by decide +kernel
theorem dL_law_258 : decode cL_law 258 = .ok (.iaload, 1) := by decide +kernel
theorem dL_law_259 : decode cL_law 259 = .ok (.aload_n 0, 1) := by decide +kernel
theorem dL_law_260 : decode cL_law 260 = .ok (.iload_n 3, 1) := by decide +kernel
theorem dL_law_261 : decode cL_law 261 = .ok (.iconst 2, 1) := by decide +kernel
theorem dL_law_262 : decode cL_law 262 = .ok (.iadd, 1) := by decide +kernel
theorem dL_law_263 : decode cL_law 263 = .ok (.iaload, 1) := by decide +kernel
theorem dL_law_264 : decode cL_law 264 = .ok (.invokevirtual 35, 3) := by decide +kernel
theorem dL_law_267 : decode cL_law 267 = .ok (.aload_n 2, 1) := by decide +kernel
theorem dL_law_268 : decode cL_law 268 = .ok (.aload_n 0, 1) := by decide +kernel
theorem dL_law_269 : decode cL_law 269 = .ok (.iload_n 3, 1) := by decide +kernel
theorem dL_law_270 : decode cL_law 270 = .ok (.iconst 1, 1) := by decide +kernel
theorem dL_law_271 : decode cL_law 271 = .ok (.iadd, 1) := by decide +kernel
theorem dL_law_272 : decode cL_law 272 = .ok (.iaload, 1) := by decide +kernel
theorem dL_law_273 : decode cL_law 273 = .ok (.aload_n 0, 1) := by decide +kernel
theorem dL_law_274 : decode cL_law 274 = .ok (.iload_n 3, 1) := by decide +kernel
theorem dL_law_275 : decode cL_law 275 = .ok (.iconst 2, 1) := by decide +kernel
theorem dL_law_276 : decode cL_law 276 = .ok (.iadd, 1) := by decide +kernel
theorem dL_law_277 : decode cL_law 277 = .ok (.iaload, 1) := by decide +kernel
theorem dL_law_278 : decode cL_law 278 = .ok (.invokevirtual 39, 3) := by decide +kernel
theorem dL_law_281 : decode cL_law 281 = .ok (.if_icmp .eq 804, 3) := by decide +kernel
theorem dL_law_284 : decode cL_law 284 = .ok (.iconst 0, 1) := by decide +kernel
theorem dL_law_285 : decode cL_law 285 = .ok (.ireturn, 1) := by decide +kernel
theorem dL_law_286 : decode cL_law 286 = .ok (.aload_n 1, 1) := by decide +kernel
theorem dL_law_287 : decode cL_law 287 = .ok (.aload_n 0, 1) := by decide +kernel
theorem dL_law_288 : decode cL_law 288 = .ok (.iload_n 3, 1) := by decide +kernel
theorem dL_law_289 : decode cL_law 289 = .ok (.iconst 1, 1) := by decide +kernel
theorem dL_law_290 : decode cL_law 290 = .ok (.iadd, 1) := by decide +kernel
theorem dL_law_291 : decode cL_law 291 = .ok (.iaload, 1) := by decide +kernel
theorem dL_law_292 : decode cL_law 292 = .ok (.aload_n 0, 1) := by decide +kernel
theorem dL_law_293 : decode cL_law 293 = .ok (.iload_n 3, 1) := by decide +kernel
theorem dL_law_294 : decode cL_law 294 = .ok (.iconst 2, 1) := by decide +kernel
theorem dL_law_295 : decode cL_law 295 = .ok (.iadd, 1) := by decide +kernel
theorem dL_law_296 : decode cL_law 296 = .ok (.iaload, 1) := by decide +kernel
theorem dL_law_297 : decode cL_law 297 = .ok (.invokevirtual 40, 3) := by decide +kernel
theorem dL_law_300 : decode cL_law 300 = .ok (.aload_n 2, 1) := by decide +kernel
theorem dL_law_301 : decode cL_law 301 = .ok (.aload_n 0, 1) := by decide +kernel
theorem dL_law_302 : decode cL_law 302 = .ok (.iload_n 3, 1) := by decide +kernel
theorem dL_law_303 : decode cL_law 303 = .ok (.iconst 1, 1) := by decide +kernel
theorem dL_law_304 : decode cL_law 304 = .ok (.iadd, 1) := by decide +kernel
theorem dL_law_305 : decode cL_law 305 = .ok (.iaload, 1) := by decide +kernel
theorem dL_law_306 : decode cL_law 306 = .ok (.aload_n 0, 1) := by decide +kernel
theorem dL_law_307 : decode cL_law 307 = .ok (.iload_n 3, 1) := by decide +kernel
theorem dL_law_308 : decode cL_law 308 = .ok (.iconst 2, 1) := by decide +kernel
theorem dL_law_309 : decode cL_law 309 = .ok (.iadd, 1) := by decide +kernel
theorem dL_law_310 : decode cL_law 310 = .ok (.iaload, 1) := by decide +kernel
theorem dL_law_311 : decode cL_law 311 = .ok (.invokevirtual 43, 3) := by decide +kernel
theorem dL_law_314 : decode cL_law 314 = .ok (.if_icmp .eq 771, 3) := by decide +kernel
theorem dL_law_317 : decode cL_law 317 = .ok (.iconst 0, 1) := by decide +kernel
theorem dL_law_318 : decode cL_law 318 = .ok (.ireturn, 1) := by decide +kernel
theorem dL_law_319 : decode cL_law 319 = .ok (.aload_n 1, 1) := by decide +kernel
theorem dL_law_320 : decode cL_law 320 = .ok (.aload_n 0, 1) := by decide +kernel
theorem dL_law_321 : decode cL_law 321 = .ok (.iload_n 3, 1) := by decide +kernel
theorem dL_law_322 : decode cL_law 322 = .ok (.iconst 1, 1) := by decide +kernel
theorem dL_law_323 : decode cL_law 323 = .ok (.iadd, 1) := by decide +kernel
theorem dL_law_324 : decode cL_law 324 = .ok (.iaload, 1) := by decide +kernel
theorem dL_law_325 : decode cL_law 325 = .ok (.aload_n 0, 1) := by decide +kernel
theorem dL_law_326 : decode cL_law 326 = .ok (.iload_n 3, 1) := by decide +kernel
theorem dL_law_327 : decode cL_law 327 = .ok (.iconst 2, 1) := by decide +kernel
theorem dL_law_328 : decode cL_law 328 = .ok (.iadd, 1) := by decide +kernel
theorem dL_law_329 : decode cL_law 329 = .ok (.iaload, 1) := by decide +kernel
theorem dL_law_330 : decode cL_law 330 = .ok (.aload_n 0, 1) := by decide +kernel
theorem dL_law_331 : decode cL_law 331 = .ok (.iload_n 3, 1) := by decide +kernel
theorem dL_law_332 : decode cL_law 332 = .ok (.iconst 3, 1) := by decide +kernel
theorem dL_law_333 : decode cL_law 333 = .ok (.iadd, 1) := by decide +kernel
theorem dL_law_334 : decode cL_law 334 = .ok (.iaload, 1) := by decide +kernel
theorem dL_law_335 : decode cL_law 335 = .ok (.invokevirtual 44, 3) := by decide +kernel
theorem dL_law_338 : decode cL_law 338 = .ok (.aload_n 2, 1) := by decide +kernel
theorem dL_law_339 : decode cL_law 339 = .ok (.aload_n 0, 1) := by decide +kernel
theorem dL_law_340 : decode cL_law 340 = .ok (.iload_n 3, 1) := by decide +kernel
theorem dL_law_341 : decode cL_law 341 = .ok (.iconst 1, 1) := by decide +kernel
theorem dL_law_342 : decode cL_law 342 = .ok (.iadd, 1) := by decide +kernel
theorem dL_law_343 : decode cL_law 343 = .ok (.iaload, 1) := by decide +kernel
theorem dL_law_344 : decode cL_law 344 = .ok (.aload_n 0, 1) := by decide +kernel
theorem dL_law_345 : decode cL_law 345 = .ok (.iload_n 3, 1) := by decide +kernel
theorem dL_law_346 : decode cL_law 346 = .ok (.iconst 2, 1) := by decide +kernel
theorem dL_law_347 : decode cL_law 347 = .ok (.iadd, 1) := by decide +kernel
theorem dL_law_348 : decode cL_law 348 = .ok (.iaload, 1) := by decide +kernel
theorem dL_law_349 : decode cL_law 349 = .ok (.aload_n 0, 1) := by decide +kernel
theorem dL_law_350 : decode cL_law 350 = .ok (.iload_n 3, 1) := by decide +kernel
theorem dL_law_351 : decode cL_law 351 = .ok (.iconst 3, 1) := by decide +kernel
theorem dL_law_352 : decode cL_law 352 = .ok (.iadd, 1) := by decide +kernel
theorem dL_law_353 : decode cL_law 353 = .ok (.iaload, 1) := by decide +kernel
theorem dL_law_354 : decode cL_law 354 = .ok (.invokevirtual 48, 3) := by decide +kernel
theorem dL_law_357 : decode cL_law 357 = .ok (.if_icmp .eq 728, 3) := by decide +kernel
theorem dL_law_360 : decode cL_law 360 = .ok (.iconst 0, 1) := by decide +kernel
theorem dL_law_361 : decode cL_law 361 = .ok (.ireturn, 1) := by decide +kernel
theorem dL_law_362 : decode cL_law 362 = .ok (.aload_n 1, 1) := by decide +kernel
theorem dL_law_363 : decode cL_law 363 = .ok (.aload_n 0, 1) := by decide +kernel
theorem dL_law_364 : decode cL_law 364 = .ok (.iload_n 3, 1) := by decide +kernel
theorem dL_law_365 : decode cL_law 365 = .ok (.iconst 1, 1) := by decide +kernel
theorem dL_law_366 : decode cL_law 366 = .ok (.iadd, 1) := by decide +kernel
theorem dL_law_367 : decode cL_law 367 = .ok (.iaload, 1) := by decide +kernel
theorem dL_law_368 : decode cL_law 368 = .ok (.aload_n 0, 1) := by decide +kernel
theorem dL_law_369 : decode cL_law 369 = .ok (.iload_n 3, 1) := by decide +kernel
theorem dL_law_370 : decode cL_law 370 = .ok (.iconst 2, 1) := by decide +kernel
theorem dL_law_371 : decode cL_law 371 = .ok (.iadd, 1) := by decide +kernel
theorem dL_law_372 : decode cL_law 372 = .ok (.iaload, 1) := by decide +kernel
theorem dL_law_373 : decode cL_law 373 = .ok (.aload_n 0, 1) := by decide +kernel
theorem dL_law_374 : decode cL_law 374 = .ok (.iload_n 3, 1) := by decide +kernel
theorem dL_law_375 : decode cL_law 375 = .ok (.iconst 3, 1) := by decide +kernel
theorem dL_law_376 : decode cL_law 376 = .ok (.iadd, 1) := by decide +kernel
theorem dL_law_377 : decode cL_law 377 = .ok (.iaload, 1) := by decide +kernel
theorem dL_law_378 : decode cL_law 378 = .ok (.invokevirtual 49, 3) := by decide +kernel
theorem dL_law_381 : decode cL_law 381 = .ok (.aload_n 2, 1) := by decide +kernel
theorem dL_law_382 : decode cL_law 382 = .ok (.aload_n 0, 1) := by decide +kernel
theorem dL_law_383 : decode cL_law 383 = .ok (.iload_n 3, 1) := by decide +kernel
theorem dL_law_384 : decode cL_law 384 = .ok (.iconst 1, 1) := by decide +kernel
theorem dL_law_385 : decode cL_law 385 = .ok (.iadd, 1) := by decide +kernel
theorem dL_law_386 : decode cL_law 386 = .ok (.iaload, 1) := by decide +kernel
theorem dL_law_387 : decode cL_law 387 = .ok (.aload_n 0, 1) := by decide +kernel
theorem dL_law_388 : decode cL_law 388 = .ok (.iload_n 3, 1) := by decide +kernel
theorem dL_law_389 : decode cL_law 389 = .ok (.iconst 2, 1) := by decide +kernel
theorem dL_law_390 : decode cL_law 390 = .ok (.iadd, 1) := by decide +kernel
theorem dL_law_391 : decode cL_law 391 = .ok (.iaload, 1) := by decide +kernel
theorem dL_law_392 : decode cL_law 392 = .ok (.aload_n 0, 1) := by decide +kernel
theorem dL_law_393 : decode cL_law 393 = .ok (.iload_n 3, 1) := by decide +kernel
theorem dL_law_394 : decode cL_law 394 = .ok (.iconst 3, 1) := by decide +kernel
theorem dL_law_395 : decode cL_law 395 = .ok (.iadd, 1) := by decide +kernel
theorem dL_law_396 : decode cL_law 396 = .ok (.iaload, 1) := by decide +kernel
theorem dL_law_397 : decode cL_law 397 = .ok (.invokevirtual 52, 3) := by decide +kernel
theorem dL_law_400 : decode cL_law 400 = .ok (.if_icmp .eq 685, 3) := by decide +kernel
theorem dL_law_403 : decode cL_law 403 = .ok (.iconst 0, 1) := by decide +kernel
theorem dL_law_404 : decode cL_law 404 = .ok (.ireturn, 1) := by decide +kernel
theorem dL_law_405 : decode cL_law 405 = .ok (.aload_n 1, 1) := by decide +kernel
theorem dL_law_406 : decode cL_law 406 = .ok (.aload_n 0, 1) := by decide +kernel
theorem dL_law_407 : decode cL_law 407 = .ok (.iload_n 3, 1) := by decide +kernel
theorem dL_law_408 : decode cL_law 408 = .ok (.iconst 1, 1) := by decide +kernel
theorem dL_law_409 : decode cL_law 409 = .ok (.iadd, 1) := by decide +kernel
theorem dL_law_410 : decode cL_law 410 = .ok (.iaload, 1) := by decide +kernel
theorem dL_law_411 : decode cL_law 411 = .ok (.invokevirtual 53, 3) := by decide +kernel
theorem dL_law_414 : decode cL_law 414 = .ok (.aload_n 2, 1) := by decide +kernel
theorem dL_law_415 : decode cL_law 415 = .ok (.aload_n 0, 1) := by decide +kernel
theorem dL_law_416 : decode cL_law 416 = .ok (.iload_n 3, 1) := by decide +kernel
theorem dL_law_417 : decode cL_law 417 = .ok (.iconst 1, 1) := by decide +kernel
theorem dL_law_418 : decode cL_law 418 = .ok (.iadd, 1) := by decide +kernel
theorem dL_law_419 : decode cL_law 419 = .ok (.iaload, 1) := by decide +kernel
theorem dL_law_420 : decode cL_law 420 = .ok (.invokevirtual 56, 3) := by decide +kernel
theorem dL_law_423 : decode cL_law 423 = .ok (.if_icmp .eq 662, 3) := by decide +kernel
theorem dL_law_426 : decode cL_law 426 = .ok (.iconst 0, 1) := by decide +kernel
theorem dL_law_427 : decode cL_law 427 = .ok (.ireturn, 1) := by decide +kernel
theorem dL_law_428 : decode cL_law 428 = .ok (.aload_n 1, 1) := by decide +kernel
theorem dL_law_429 : decode cL_law 429 = .ok (.aload_n 0, 1) := by decide +kernel
theorem dL_law_430 : decode cL_law 430 = .ok (.iload_n 3, 1) := by decide +kernel
theorem dL_law_431 : decode cL_law 431 = .ok (.iconst 1, 1) := by decide +kernel
theorem dL_law_432 : decode cL_law 432 = .ok (.iadd, 1) := by decide +kernel
theorem dL_law_433 : decode cL_law 433 = .ok (.iaload, 1) := by decide +kernel
theorem dL_law_434 : decode cL_law 434 = .ok (.invokevirtual 57, 3) := by decide +kernel
theorem dL_law_437 : decode cL_law 437 = .ok (.aload_n 2, 1) := by decide +kernel
theorem dL_law_438 : decode cL_law 438 = .ok (.aload_n 0, 1) := by decide +kernel
theorem dL_law_439 : decode cL_law 439 = .ok (.iload_n 3, 1) := by decide +kernel
theorem dL_law_440 : decode cL_law 440 = .ok (.iconst 1, 1) := by decide +kernel
theorem dL_law_441 : decode cL_law 441 = .ok (.iadd, 1) := by decide +kernel
theorem dL_law_442 : decode cL_law 442 = .ok (.iaload, 1) := by decide +kernel
theorem dL_law_443 : decode cL_law 443 = .ok (.invokevirtual 60, 3) := by decide +kernel
theorem dL_law_446 : decode cL_law 446 = .ok (.if_icmp .eq 639, 3) := by decide +kernel
theorem dL_law_449 : decode cL_law 449 = .ok (.iconst 0, 1) := by decide +kernel
theorem dL_law_450 : decode cL_law 450 = .ok (.ireturn, 1) := by decide +kernel
theorem dL_law_451 : decode cL_law 451 = .ok (.aload_n 1, 1) := by decide +kernel
theorem dL_law_452 : decode cL_law 452 = .ok (.invokevirtual 61, 3) := by decide +kernel
theorem dL_law_455 : decode cL_law 455 = .ok (.aload_n 2, 1) := by decide +kernel
theorem dL_law_456 : decode cL_law 456 = .ok (.invokevirtual 64, 3) := by decide +kernel
theorem dL_law_459 : decode cL_law 459 = .ok (.if_icmp .eq 626, 3) := by decide +kernel
theorem dL_law_462 : decode cL_law 462 = .ok (.iconst 0, 1) := by decide +kernel
theorem dL_law_463 : decode cL_law 463 = .ok (.ireturn, 1) := by decide +kernel
theorem dL_law_464 : decode cL_law 464 = .ok (.aload_n 1, 1) := by decide +kernel
theorem dL_law_465 : decode cL_law 465 = .ok (.aload_n 0, 1) := by decide +kernel
theorem dL_law_466 : decode cL_law 466 = .ok (.iload_n 3, 1) := by decide +kernel
theorem dL_law_467 : decode cL_law 467 = .ok (.iconst 1, 1) := by decide +kernel
theorem dL_law_468 : decode cL_law 468 = .ok (.iadd, 1) := by decide +kernel
theorem dL_law_469 : decode cL_law 469 = .ok (.iaload, 1) := by decide +kernel
theorem dL_law_470 : decode cL_law 470 = .ok (.invokevirtual 65, 3) := by decide +kernel
theorem dL_law_473 : decode cL_law 473 = .ok (.aload_n 2, 1) := by decide +kernel
theorem dL_law_474 : decode cL_law 474 = .ok (.aload_n 0, 1) := by decide +kernel
theorem dL_law_475 : decode cL_law 475 = .ok (.iload_n 3, 1) := by decide +kernel
theorem dL_law_476 : decode cL_law 476 = .ok (.iconst 1, 1) := by decide +kernel
theorem dL_law_477 : decode cL_law 477 = .ok (.iadd, 1) := by decide +kernel
theorem dL_law_478 : decode cL_law 478 = .ok (.iaload, 1) := by decide +kernel
theorem dL_law_479 : decode cL_law 479 = .ok (.invokevirtual 68, 3) := by decide +kernel
theorem dL_law_482 : decode cL_law 482 = .ok (.if_icmp .eq 603, 3) := by decide +kernel
theorem dL_law_485 : decode cL_law 485 = .ok (.iconst 0, 1) := by decide +kernel
theorem dL_law_486 : decode cL_law 486 = .ok (.ireturn, 1) := by decide +kernel
theorem dL_law_487 : decode cL_law 487 = .ok (.aload_n 1, 1) := by decide +kernel
theorem dL_law_488 : decode cL_law 488 = .ok (.invokevirtual 69, 3) := by decide +kernel
theorem dL_law_491 : decode cL_law 491 = .ok (.aload_n 2, 1) := by decide +kernel
theorem dL_law_492 : decode cL_law 492 = .ok (.invokevirtual 72, 3) := by decide +kernel
theorem dL_law_495 : decode cL_law 495 = .ok (.if_icmp .eq 590, 3) := by decide +kernel
theorem dL_law_498 : decode cL_law 498 = .ok (.iconst 0, 1) := by decide +kernel
theorem dL_law_499 : decode cL_law 499 = .ok (.ireturn, 1) := by decide +kernel
theorem dL_law_500 : decode cL_law 500 = .ok (.aload_n 1, 1) := by decide +kernel
theorem dL_law_501 : decode cL_law 501 = .ok (.aload_n 0, 1) := by decide +kernel
theorem dL_law_502 : decode cL_law 502 = .ok (.iload_n 3, 1) := by decide +kernel
theorem dL_law_503 : decode cL_law 503 = .ok (.iconst 1, 1) := by decide +kernel
theorem dL_law_504 : decode cL_law 504 = .ok (.iadd, 1) := by decide +kernel
theorem dL_law_505 : decode cL_law 505 = .ok (.iaload, 1) := by decide +kernel
theorem dL_law_506 : decode cL_law 506 = .ok (.aload_n 0, 1) := by decide +kernel
theorem dL_law_507 : decode cL_law 507 = .ok (.iload_n 3, 1) := by decide +kernel
theorem dL_law_508 : decode cL_law 508 = .ok (.iconst 2, 1) := by decide +kernel
theorem dL_law_509 : decode cL_law 509 = .ok (.iadd, 1) := by decide +kernel
theorem dL_law_510 : decode cL_law 510 = .ok (.iaload, 1) := by decide +kernel
theorem dL_law_511 : decode cL_law 511 = .ok (.aload_n 0, 1) := by decide +kernel
theorem dL_law_512 : decode cL_law 512 = .ok (.iload_n 3, 1) := by decide +kernel
theorem dL_law_513 : decode cL_law 513 = .ok (.iconst 3, 1) := by decide +kernel
theorem dL_law_514 : decode cL_law 514 = .ok (.iadd, 1) := by decide +kernel
theorem dL_law_515 : decode cL_law 515 = .ok (.iaload, 1) := by decide +kernel
theorem dL_law_516 : decode cL_law 516 = .ok (.invokevirtual 73, 3) := by decide +kernel
theorem dL_law_519 : decode cL_law 519 = .ok (.aload_n 2, 1) := by decide +kernel
theorem dL_law_520 : decode cL_law 520 = .ok (.aload_n 0, 1) := by decide +kernel
theorem dL_law_521 : decode cL_law 521 = .ok (.iload_n 3, 1) := by decide +kernel
theorem dL_law_522 : decode cL_law 522 = .ok (.iconst 1, 1) := by decide +kernel
theorem dL_law_523 : decode cL_law 523 = .ok (.iadd, 1) := by decide +kernel
theorem dL_law_524 : decode cL_law 524 = .ok (.iaload, 1) := by decide +kernel
theorem dL_law_525 : decode cL_law 525 = .ok (.aload_n 0, 1) := by decide +kernel
theorem dL_law_526 : decode cL_law 526 = .ok (.iload_n 3, 1) := by decide +kernel
theorem dL_law_527 : decode cL_law 527 = .ok (.iconst 2, 1) := by decide +kernel
theorem dL_law_528 : decode cL_law 528 = .ok (.iadd, 1) := by decide +kernel
theorem dL_law_529 : decode cL_law 529 = .ok (.iaload, 1) := by decide +kernel
theorem dL_law_530 : decode cL_law 530 = .ok (.aload_n 0, 1) := by decide +kernel
theorem dL_law_531 : decode cL_law 531 = .ok (.iload_n 3, 1) := by decide +kernel
theorem dL_law_532 : decode cL_law 532 = .ok (.iconst 3, 1) := by decide +kernel
theorem dL_law_533 : decode cL_law 533 = .ok (.iadd, 1) := by decide +kernel
theorem dL_law_534 : decode cL_law 534 = .ok (.iaload, 1) := by decide +kernel
theorem dL_law_535 : decode cL_law 535 = .ok (.invokevirtual 76, 3) := by decide +kernel
theorem dL_law_538 : decode cL_law 538 = .ok (.if_icmp .eq 547, 3) := by decide +kernel
theorem dL_law_541 : decode cL_law 541 = .ok (.iconst 0, 1) := by decide +kernel
theorem dL_law_542 : decode cL_law 542 = .ok (.ireturn, 1) := by decide +kernel
theorem dL_law_543 : decode cL_law 543 = .ok (.aload_n 1, 1) := by decide +kernel
theorem dL_law_544 : decode cL_law 544 = .ok (.aload_n 0, 1) := by decide +kernel
theorem dL_law_545 : decode cL_law 545 = .ok (.iload_n 3, 1) := by decide +kernel
theorem dL_law_546 : decode cL_law 546 = .ok (.iconst 1, 1) := by decide +kernel
theorem dL_law_547 : decode cL_law 547 = .ok (.iadd, 1) := by decide +kernel
theorem dL_law_548 : decode cL_law 548 = .ok (.iaload, 1) := by decide +kernel
theorem dL_law_549 : decode cL_law 549 = .ok (.aload_n 0, 1) := by decide +kernel
theorem dL_law_550 : decode cL_law 550 = .ok (.iload_n 3, 1) := by decide +kernel
theorem dL_law_551 : decode cL_law 551 = .ok (.iconst 2, 1) := by decide +kernel
theorem dL_law_552 : decode cL_law 552 = .ok (.iadd, 1) := by decide +kernel
theorem dL_law_553 : decode cL_law 553 = .ok (.iaload, 1) := by decide +kernel
theorem dL_law_554 : decode cL_law 554 = .ok (.ifCond .eq 7, 3) := by decide +kernel
theorem dL_law_557 : decode cL_law 557 = .ok (.iconst 1, 1) := by decide +kernel
theorem dL_law_558 : decode cL_law 558 = .ok (.goto 4, 3) := by decide +kernel
theorem dL_law_561 : decode cL_law 561 = .ok (.iconst 0, 1) := by decide +kernel
theorem dL_law_562 : decode cL_law 562 = .ok (.invokevirtual 77, 3) := by decide +kernel
theorem dL_law_565 : decode cL_law 565 = .ok (.aload_n 2, 1) := by decide +kernel
theorem dL_law_566 : decode cL_law 566 = .ok (.aload_n 0, 1) := by decide +kernel
theorem dL_law_567 : decode cL_law 567 = .ok (.iload_n 3, 1) := by decide +kernel
theorem dL_law_568 : decode cL_law 568 = .ok (.iconst 1, 1) := by decide +kernel
theorem dL_law_569 : decode cL_law 569 = .ok (.iadd, 1) := by decide +kernel
theorem dL_law_570 : decode cL_law 570 = .ok (.iaload, 1) := by decide +kernel
theorem dL_law_571 : decode cL_law 571 = .ok (.aload_n 0, 1) := by decide +kernel
theorem dL_law_572 : decode cL_law 572 = .ok (.iload_n 3, 1) := by decide +kernel
theorem dL_law_573 : decode cL_law 573 = .ok (.iconst 2, 1) := by decide +kernel
theorem dL_law_574 : decode cL_law 574 = .ok (.iadd, 1) := by decide +kernel
theorem dL_law_575 : decode cL_law 575 = .ok (.iaload, 1) := by decide +kernel
theorem dL_law_576 : decode cL_law 576 = .ok (.ifCond .eq 7, 3) := by decide +kernel
theorem dL_law_579 : decode cL_law 579 = .ok (.iconst 1, 1) := by decide +kernel
theorem dL_law_580 : decode cL_law 580 = .ok (.goto 4, 3) := by decide +kernel
theorem dL_law_583 : decode cL_law 583 = .ok (.iconst 0, 1) := by decide +kernel
theorem dL_law_584 : decode cL_law 584 = .ok (.invokevirtual 81, 3) := by decide +kernel
theorem dL_law_587 : decode cL_law 587 = .ok (.if_icmp .eq 498, 3) := by decide +kernel
theorem dL_law_590 : decode cL_law 590 = .ok (.iconst 0, 1) := by decide +kernel
theorem dL_law_591 : decode cL_law 591 = .ok (.ireturn, 1) := by decide +kernel
theorem dL_law_592 : decode cL_law 592 = .ok (.aload_n 1, 1) := by decide +kernel
theorem dL_law_593 : decode cL_law 593 = .ok (.aload_n 0, 1) := by decide +kernel
theorem dL_law_594 : decode cL_law 594 = .ok (.iload_n 3, 1) := by decide +kernel
theorem dL_law_595 : decode cL_law 595 = .ok (.iconst 1, 1) := by decide +kernel
theorem dL_law_596 : decode cL_law 596 = .ok (.iadd, 1) := by decide +kernel
theorem dL_law_597 : decode cL_law 597 = .ok (.iaload, 1) := by decide +kernel
theorem dL_law_598 : decode cL_law 598 = .ok (.aload_n 0, 1) := by decide +kernel
theorem dL_law_599 : decode cL_law 599 = .ok (.iload_n 3, 1) := by decide +kernel
theorem dL_law_600 : decode cL_law 600 = .ok (.iconst 2, 1) := by decide +kernel
theorem dL_law_601 : decode cL_law 601 = .ok (.iadd, 1) := by decide +kernel
theorem dL_law_602 : decode cL_law 602 = .ok (.iaload, 1) := by decide +kernel
theorem dL_law_603 : decode cL_law 603 = .ok (.invokevirtual 82, 3) := by decide +kernel
theorem dL_law_606 : decode cL_law 606 = .ok (.aload_n 2, 1) := by decide +kernel
theorem dL_law_607 : decode cL_law 607 = .ok (.aload_n 0, 1) := by decide +kernel
theorem dL_law_608 : decode cL_law 608 = .ok (.iload_n 3, 1) := by decide +kernel
theorem dL_law_609 : decode cL_law 609 = .ok (.iconst 1, 1) := by decide +kernel
theorem dL_law_610 : decode cL_law 610 = .ok (.iadd, 1) := by decide +kernel
theorem dL_law_611 : decode cL_law 611 = .ok (.iaload, 1) := by decide +kernel
theorem dL_law_612 : decode cL_law 612 = .ok (.aload_n 0, 1) := by decide +kernel
theorem dL_law_613 : decode cL_law 613 = .ok (.iload_n 3, 1) := by decide +kernel
theorem dL_law_614 : decode cL_law 614 = .ok (.iconst 2, 1) := by decide +kernel
theorem dL_law_615 : decode cL_law 615 = .ok (.iadd, 1) := by decide +kernel
theorem dL_law_616 : decode cL_law 616 = .ok (.iaload, 1) := by decide +kernel
theorem dL_law_617 : decode cL_law 617 = .ok (.invokevirtual 85, 3) := by decide +kernel
theorem dL_law_620 : decode cL_law 620 = .ok (.if_icmp .eq 465, 3) := by decide +kernel
theorem dL_law_623 : decode cL_law 623 = .ok (.iconst 0, 1) := by decide +kernel
theorem dL_law_624 : decode cL_law 624 = .ok (.ireturn, 1) := by decide +kernel
theorem dL_law_625 : decode cL_law 625 = .ok (.aload_n 1, 1) := by decide +kernel
theorem dL_law_626 : decode cL_law 626 = .ok (.aload_n 0, 1) := by decide +kernel
theorem dL_law_627 : decode cL_law 627 = .ok (.iload_n 3, 1) := by decide +kernel
theorem dL_law_628 : decode cL_law 628 = .ok (.iconst 1, 1) := by decide +kernel
theorem dL_law_629 : decode cL_law 629 = .ok (.iadd, 1) := by decide +kernel
theorem dL_law_630 : decode cL_law 630 = .ok (.iaload, 1) := by decide +kernel
theorem dL_law_631 : decode cL_law 631 = .ok (.ifCond .eq 7, 3) := by decide +kernel
theorem dL_law_634 : decode cL_law 634 = .ok (.iconst 1, 1) := by decide +kernel
theorem dL_law_635 : decode cL_law 635 = .ok (.goto 4, 3) := by decide +kernel
theorem dL_law_638 : decode cL_law 638 = .ok (.iconst 0, 1) := by decide +kernel
theorem dL_law_639 : decode cL_law 639 = .ok (.invokevirtual 86, 3) := by decide +kernel
theorem dL_law_642 : decode cL_law 642 = .ok (.aload_n 2, 1) := by decide +kernel
theorem dL_law_643 : decode cL_law 643 = .ok (.aload_n 0, 1) := by decide +kernel
theorem dL_law_644 : decode cL_law 644 = .ok (.iload_n 3, 1) := by decide +kernel
theorem dL_law_645 : decode cL_law 645 = .ok (.iconst 1, 1) := by decide +kernel
theorem dL_law_646 : decode cL_law 646 = .ok (.iadd, 1) := by decide +kernel
theorem dL_law_647 : decode cL_law 647 = .ok (.iaload, 1) := by decide +kernel
theorem dL_law_648 : decode cL_law 648 = .ok (.ifCond .eq 7, 3) := by decide +kernel
theorem dL_law_651 : decode cL_law 651 = .ok (.iconst 1, 1) := by decide +kernel
theorem dL_law_652 : decode cL_law 652 = .ok (.goto 4, 3) := by decide +kernel
theorem dL_law_655 : decode cL_law 655 = .ok (.iconst 0, 1) := by decide +kernel
theorem dL_law_656 : decode cL_law 656 = .ok (.invokevirtual 90, 3) := by decide +kernel
theorem dL_law_659 : decode cL_law 659 = .ok (.if_icmp .eq 426, 3) := by decide +kernel
theorem dL_law_662 : decode cL_law 662 = .ok (.iconst 0, 1) := by decide +kernel
theorem dL_law_663 : decode cL_law 663 = .ok (.ireturn, 1) := by decide +kernel
theorem dL_law_664 : decode cL_law 664 = .ok (.aload_n 1, 1) := by decide +kernel
theorem dL_law_665 : decode cL_law 665 = .ok (.aload_n 0, 1) := by decide +kernel
theorem dL_law_666 : decode cL_law 666 = .ok (.iload_n 3, 1) := by decide +kernel
theorem dL_law_667 : decode cL_law 667 = .ok (.iconst 1, 1) := by decide +kernel
theorem dL_law_668 : decode cL_law 668 = .ok (.iadd, 1) := by decide +kernel
theorem dL_law_669 : decode cL_law 669 = .ok (.iaload, 1) := by decide +kernel
theorem dL_law_670 : decode cL_law 670 = .ok (.invokevirtual 91, 3) := by decide +kernel
theorem dL_law_673 : decode cL_law 673 = .ok (.aload_n 2, 1) := by decide +kernel
theorem dL_law_674 : decode cL_law 674 = .ok (.aload_n 0, 1) := by decide +kernel
theorem dL_law_675 : decode cL_law 675 = .ok (.iload_n 3, 1) := by decide +kernel
theorem dL_law_676 : decode cL_law 676 = .ok (.iconst 1, 1) := by decide +kernel
theorem dL_law_677 : decode cL_law 677 = .ok (.iadd, 1) := by decide +kernel
theorem dL_law_678 : decode cL_law 678 = .ok (.iaload, 1) := by decide +kernel
theorem dL_law_679 : decode cL_law 679 = .ok (.invokevirtual 94, 3) := by decide +kernel
theorem dL_law_682 : decode cL_law 682 = .ok (.if_icmp .eq 403, 3) := by decide +kernel
theorem dL_law_685 : decode cL_law 685 = .ok (.iconst 0, 1) := by decide +kernel
theorem dL_law_686 : decode cL_law 686 = .ok (.ireturn, 1) := by decide +kernel
theorem dL_law_687 : decode cL_law 687 = .ok (.aload_n 1, 1) := by decide +kernel
theorem dL_law_688 : decode cL_law 688 = .ok (.aload_n 0, 1) := by decide +kernel
theorem dL_law_689 : decode cL_law 689 = .ok (.iload_n 3, 1) := by decide +kernel
theorem dL_law_690 : decode cL_law 690 = .ok (.iconst 1, 1) := by decide +kernel
theorem dL_law_691 : decode cL_law 691 = .ok (.iadd, 1) := by decide +kernel
theorem dL_law_692 : decode cL_law 692 = .ok (.iaload, 1) := by decide +kernel
theorem dL_law_693 : decode cL_law 693 = .ok (.aload_n 0, 1) := by decide +kernel
theorem dL_law_694 : decode cL_law 694 = .ok (.iload_n 3, 1) := by decide +kernel
theorem dL_law_695 : decode cL_law 695 = .ok (.iconst 2, 1) := by decide +kernel
theorem dL_law_696 : decode cL_law 696 = .ok (.iadd, 1) := by decide +kernel
theorem dL_law_697 : decode cL_law 697 = .ok (.iaload, 1) := by decide +kernel
theorem dL_law_698 : decode cL_law 698 = .ok (.invokevirtual 95, 3) := by decide +kernel
theorem dL_law_701 : decode cL_law 701 = .ok (.aload_n 2, 1) := by decide +kernel
theorem dL_law_702 : decode cL_law 702 = .ok (.aload_n 0, 1) := by decide +kernel
theorem dL_law_703 : decode cL_law 703 = .ok (.iload_n 3, 1) := by decide +kernel
theorem dL_law_704 : decode cL_law 704 = .ok (.iconst 1, 1) := by decide +kernel
theorem dL_law_705 : decode cL_law 705 = .ok (.iadd, 1) := by decide +kernel
theorem dL_law_706 : decode cL_law 706 = .ok (.iaload, 1) := by decide +kernel
theorem dL_law_707 : decode cL_law 707 = .ok (.aload_n 0, 1) := by decide +kernel
theorem dL_law_708 : decode cL_law 708 = .ok (.iload_n 3, 1) := by decide +kernel
theorem dL_law_709 : decode cL_law 709 = .ok (.iconst 2, 1) := by decide +kernel
theorem dL_law_710 : decode cL_law 710 = .ok (.iadd, 1) := by decide +kernel
theorem dL_law_711 : decode cL_law 711 = .ok (.iaload, 1) := by decide +kernel
theorem dL_law_712 : decode cL_law 712 = .ok (.invokevirtual 98, 3) := by decide +kernel
theorem dL_law_715 : decode cL_law 715 = .ok (.if_icmp .eq 370, 3) := by decide +kernel
theorem dL_law_718 : decode cL_law 718 = .ok (.iconst 0, 1) := by decide +kernel
theorem dL_law_719 : decode cL_law 719 = .ok (.ireturn, 1) := by decide +kernel
theorem dL_law_720 : decode cL_law 720 = .ok (.aload_n 1, 1) := by decide +kernel
theorem dL_law_721 : decode cL_law 721 = .ok (.aload_n 0, 1) := by decide +kernel
theorem dL_law_722 : decode cL_law 722 = .ok (.iload_n 3, 1) := by decide +kernel
theorem dL_law_723 : decode cL_law 723 = .ok (.iconst 1, 1) := by decide +kernel
theorem dL_law_724 : decode cL_law 724 = .ok (.iadd, 1) := by decide +kernel
theorem dL_law_725 : decode cL_law 725 = .ok (.iaload, 1) := by decide +kernel
theorem dL_law_726 : decode cL_law 726 = .ok (.aload_n 0, 1) := by decide +kernel
theorem dL_law_727 : decode cL_law 727 = .ok (.iload_n 3, 1) := by decide +kernel
theorem dL_law_728 : decode cL_law 728 = .ok (.iconst 2, 1) := by decide +kernel
theorem dL_law_729 : decode cL_law 729 = .ok (.iadd, 1) := by decide +kernel
theorem dL_law_730 : decode cL_law 730 = .ok (.iaload, 1) := by decide +kernel
theorem dL_law_731 : decode cL_law 731 = .ok (.ifCond .eq 7, 3) := by decide +kernel
theorem dL_law_734 : decode cL_law 734 = .ok (.iconst 1, 1) := by decide +kernel
theorem dL_law_735 : decode cL_law 735 = .ok (.goto 4, 3) := by decide +kernel
theorem dL_law_738 : decode cL_law 738 = .ok (.iconst 0, 1) := by decide +kernel
theorem dL_law_739 : decode cL_law 739 = .ok (.invokevirtual 99, 3) := by decide +kernel
theorem dL_law_742 : decode cL_law 742 = .ok (.aload_n 2, 1) := by decide +kernel
theorem dL_law_743 : decode cL_law 743 = .ok (.aload_n 0, 1) := by decide +kernel
theorem dL_law_744 : decode cL_law 744 = .ok (.iload_n 3, 1) := by decide +kernel
theorem dL_law_745 : decode cL_law 745 = .ok (.iconst 1, 1) := by decide +kernel
theorem dL_law_746 : decode cL_law 746 = .ok (.iadd, 1) := by decide +kernel
theorem dL_law_747 : decode cL_law 747 = .ok (.iaload, 1) := by decide +kernel
theorem dL_law_748 : decode cL_law 748 = .ok (.aload_n 0, 1) := by decide +kernel
theorem dL_law_749 : decode cL_law 749 = .ok (.iload_n 3, 1) := by decide +kernel
theorem dL_law_750 : decode cL_law 750 = .ok (.iconst 2, 1) := by decide +kernel
theorem dL_law_751 : decode cL_law 751 = .ok (.iadd, 1) := by decide +kernel
theorem dL_law_752 : decode cL_law 752 = .ok (.iaload, 1) := by decide +kernel
theorem dL_law_753 : decode cL_law 753 = .ok (.ifCond .eq 7, 3) := by decide +kernel
theorem dL_law_756 : decode cL_law 756 = .ok (.iconst 1, 1) := by decide +kernel
theorem dL_law_757 : decode cL_law 757 = .ok (.goto 4, 3) := by decide +kernel
theorem dL_law_760 : decode cL_law 760 = .ok (.iconst 0, 1) := by decide +kernel
theorem dL_law_761 : decode cL_law 761 = .ok (.invokevirtual 102, 3) := by decide +kernel
theorem dL_law_764 : decode cL_law 764 = .ok (.if_icmp .eq 321, 3) := by decide +kernel
theorem dL_law_767 : decode cL_law 767 = .ok (.iconst 0, 1) := by decide +kernel
theorem dL_law_768 : decode cL_law 768 = .ok (.ireturn, 1) := by decide +kernel
theorem dL_law_769 : decode cL_law 769 = .ok (.aload_n 1, 1) := by decide +kernel
theorem dL_law_770 : decode cL_law 770 = .ok (.aload_n 0, 1) := by decide +kernel
theorem dL_law_771 : decode cL_law 771 = .ok (.iload_n 3, 1) := by decide +kernel
theorem dL_law_772 : decode cL_law 772 = .ok (.iconst 1, 1) := by decide +kernel
theorem dL_law_773 : decode cL_law 773 = .ok (.iadd, 1) := by decide +kernel
theorem dL_law_774 : decode cL_law 774 = .ok (.iaload, 1) := by decide +kernel
theorem dL_law_775 : decode cL_law 775 = .ok (.aload_n 0, 1) := by decide +kernel
theorem dL_law_776 : decode cL_law 776 = .ok (.iload_n 3, 1) := by decide +kernel
theorem dL_law_777 : decode cL_law 777 = .ok (.iconst 2, 1) := by decide +kernel
theorem dL_law_778 : decode cL_law 778 = .ok (.iadd, 1) := by decide +kernel
theorem dL_law_779 : decode cL_law 779 = .ok (.iaload, 1) := by decide +kernel
theorem dL_law_780 : decode cL_law 780 = .ok (.aload_n 0, 1) := by decide +kernel
theorem dL_law_781 : decode cL_law 781 = .ok (.iload_n 3, 1) := by decide +kernel
theorem dL_law_782 : decode cL_law 782 = .ok (.iconst 3, 1) := by decide +kernel
theorem dL_law_783 : decode cL_law 783 = .ok (.iadd, 1) := by decide +kernel
theorem dL_law_784 : decode cL_law 784 = .ok (.iaload, 1) := by decide +kernel
theorem dL_law_785 : decode cL_law 785 = .ok (.invokevirtual 103, 3) := by decide +kernel
theorem dL_law_788 : decode cL_law 788 = .ok (.aload_n 2, 1) := by decide +kernel
theorem dL_law_789 : decode cL_law 789 = .ok (.aload_n 0, 1) := by decide +kernel
theorem dL_law_790 : decode cL_law 790 = .ok (.iload_n 3, 1) := by decide +kernel
theorem dL_law_791 : decode cL_law 791 = .ok (.iconst 1, 1) := by decide +kernel
theorem dL_law_792 : decode cL_law 792 = .ok (.iadd, 1) := by decide +kernel
theorem dL_law_793 : decode cL_law 793 = .ok (.iaload, 1) := by decide +kernel
theorem dL_law_794 : decode cL_law 794 = .ok (.aload_n 0, 1) := by decide +kernel
theorem dL_law_795 : decode cL_law 795 = .ok (.iload_n 3, 1) := by decide +kernel
theorem dL_law_796 : decode cL_law 796 = .ok (.iconst 2, 1) := by decide +kernel
theorem dL_law_797 : decode cL_law 797 = .ok (.iadd, 1) := by decide +kernel
theorem dL_law_798 : decode cL_law 798 = .ok (.iaload, 1) := by decide +kernel
theorem dL_law_799 : decode cL_law 799 = .ok (.aload_n 0, 1) := by decide +kernel
theorem dL_law_800 : decode cL_law 800 = .ok (.iload_n 3, 1) := by decide +kernel
theorem dL_law_801 : decode cL_law 801 = .ok (.iconst 3, 1) := by decide +kernel
theorem dL_law_802 : decode cL_law 802 = .ok (.iadd, 1) := by decide +kernel
theorem dL_law_803 : decode cL_law 803 = .ok (.iaload, 1) := by decide +kernel
theorem dL_law_804 : decode cL_law 804 = .ok (.invokevirtual 106, 3) := by decide +kernel
theorem dL_law_807 : decode cL_law 807 = .ok (.if_icmp .eq 278, 3) := by decide +kernel
theorem dL_law_810 : decode cL_law 810 = .ok (.iconst 0, 1) := by decide +kernel
theorem dL_law_811 : decode cL_law 811 = .ok (.ireturn, 1) := by decide +kernel
theorem dL_law_812 : decode cL_law 812 = .ok (.aload_n 1, 1) := by decide +kernel
theorem dL_law_813 : decode cL_law 813 = .ok (.invokevirtual 107, 3) := by decide +kernel
theorem dL_law_816 : decode cL_law 816 = .ok (.aload_n 2, 1) := by decide +kernel
theorem dL_law_817 : decode cL_law 817 = .ok (.invokevirtual 110, 3) := by decide +kernel
theorem dL_law_820 : decode cL_law 820 = .ok (.if_icmp .eq 265, 3) := by decide +kernel
theorem dL_law_823 : decode cL_law 823 = .ok (.iconst 0, 1) := by decide +kernel
theorem dL_law_824 : decode cL_law 824 = .ok (.ireturn, 1) := by decide +kernel
theorem dL_law_825 : decode cL_law 825 = .ok (.aload_n 1, 1) := by decide +kernel
theorem dL_law_826 : decode cL_law 826 = .ok (.aload_n 0, 1) := by decide +kernel
theorem dL_law_827 : decode cL_law 827 = .ok (.iload_n 3, 1) := by decide +kernel
theorem dL_law_828 : decode cL_law 828 = .ok (.iconst 1, 1) := by decide +kernel
theorem dL_law_829 : decode cL_law 829 = .ok (.iadd, 1) := by decide +kernel
theorem dL_law_830 : decode cL_law 830 = .ok (.iaload, 1) := by decide +kernel
theorem dL_law_831 : decode cL_law 831 = .ok (.invokevirtual 111, 3) := by decide +kernel
theorem dL_law_834 : decode cL_law 834 = .ok (.aload_n 2, 1) := by decide +kernel
theorem dL_law_835 : decode cL_law 835 = .ok (.aload_n 0, 1) := by decide +kernel
theorem dL_law_836 : decode cL_law 836 = .ok (.iload_n 3, 1) := by decide +kernel
theorem dL_law_837 : decode cL_law 837 = .ok (.iconst 1, 1) := by decide +kernel
theorem dL_law_838 : decode cL_law 838 = .ok (.iadd, 1) := by decide +kernel
theorem dL_law_839 : decode cL_law 839 = .ok (.iaload, 1) := by decide +kernel
theorem dL_law_840 : decode cL_law 840 = .ok (.invokevirtual 114, 3) := by decide +kernel
theorem dL_law_843 : decode cL_law 843 = .ok (.if_icmp .eq 242, 3) := by decide +kernel
theorem dL_law_846 : decode cL_law 846 = .ok (.iconst 0, 1) := by decide +kernel
theorem dL_law_847 : decode cL_law 847 = .ok (.ireturn, 1) := by decide +kernel
theorem dL_law_848 : decode cL_law 848 = .ok (.aload_n 1, 1) := by decide +kernel
theorem dL_law_849 : decode cL_law 849 = .ok (.aload_n 0, 1) := by decide +kernel
theorem dL_law_850 : decode cL_law 850 = .ok (.iload_n 3, 1) := by decide +kernel
theorem dL_law_851 : decode cL_law 851 = .ok (.iconst 1, 1) := by decide +kernel
theorem dL_law_852 : decode cL_law 852 = .ok (.iadd, 1) := by decide +kernel
theorem dL_law_853 : decode cL_law 853 = .ok (.iaload, 1) := by decide +kernel
theorem dL_law_854 : decode cL_law 854 = .ok (.invokevirtual 115, 3) := by decide +kernel
theorem dL_law_857 : decode cL_law 857 = .ok (.aload_n 2, 1) := by decide +kernel
theorem dL_law_858 : decode cL_law 858 = .ok (.aload_n 0, 1) := by decide +kernel
theorem dL_law_859 : decode cL_law 859 = .ok (.iload_n 3, 1) := by decide +kernel
theorem dL_law_860 : decode cL_law 860 = .ok (.iconst 1, 1) := by decide +kernel
theorem dL_law_861 : decode cL_law 861 = .ok (.iadd, 1) := by decide +kernel
theorem dL_law_862 : decode cL_law 862 = .ok (.iaload, 1) := by decide +kernel
theorem dL_law_863 : decode cL_law 863 = .ok (.invokevirtual 118, 3) := by decide +kernel
theorem dL_law_866 : decode cL_law 866 = .ok (.if_icmp .eq 219, 3) := by decide +kernel
theorem dL_law_869 : decode cL_law 869 = .ok (.iconst 0, 1) := by decide +kernel
theorem dL_law_870 : decode cL_law 870 = .ok (.ireturn, 1) := by decide +kernel
theorem dL_law_871 : decode cL_law 871 = .ok (.aload_n 1, 1) := by decide +kernel
theorem dL_law_872 : decode cL_law 872 = .ok (.aload_n 0, 1) := by decide +kernel
theorem dL_law_873 : decode cL_law 873 = .ok (.iload_n 3, 1) := by decide +kernel
theorem dL_law_874 : decode cL_law 874 = .ok (.iconst 1, 1) := by decide +kernel
theorem dL_law_875 : decode cL_law 875 = .ok (.iadd, 1) := by decide +kernel
theorem dL_law_876 : decode cL_law 876 = .ok (.iaload, 1) := by decide +kernel
theorem dL_law_877 : decode cL_law 877 = .ok (.aload_n 0, 1) := by decide +kernel
theorem dL_law_878 : decode cL_law 878 = .ok (.iload_n 3, 1) := by decide +kernel
theorem dL_law_879 : decode cL_law 879 = .ok (.iconst 2, 1) := by decide +kernel
theorem dL_law_880 : decode cL_law 880 = .ok (.iadd, 1) := by decide +kernel
theorem dL_law_881 : decode cL_law 881 = .ok (.iaload, 1) := by decide +kernel
theorem dL_law_882 : decode cL_law 882 = .ok (.aload_n 0, 1) := by decide +kernel
theorem dL_law_883 : decode cL_law 883 = .ok (.iload_n 3, 1) := by decide +kernel
theorem dL_law_884 : decode cL_law 884 = .ok (.iconst 3, 1) := by decide +kernel
theorem dL_law_885 : decode cL_law 885 = .ok (.iadd, 1) := by decide +kernel
theorem dL_law_886 : decode cL_law 886 = .ok (.iaload, 1) := by decide +kernel
theorem dL_law_887 : decode cL_law 887 = .ok (.aload_n 0, 1) := by decide +kernel
theorem dL_law_888 : decode cL_law 888 = .ok (.iload_n 3, 1) := by decide +kernel
theorem dL_law_889 : decode cL_law 889 = .ok (.iconst 4, 1) := by decide +kernel
theorem dL_law_890 : decode cL_law 890 = .ok (.iadd, 1) := by decide +kernel
theorem dL_law_891 : decode cL_law 891 = .ok (.iaload, 1) := by decide +kernel
theorem dL_law_892 : decode cL_law 892 = .ok (.aload_n 0, 1) := by decide +kernel
theorem dL_law_893 : decode cL_law 893 = .ok (.iload_n 3, 1) := by decide +kernel
theorem dL_law_894 : decode cL_law 894 = .ok (.iconst 5, 1) := by decide +kernel
theorem dL_law_895 : decode cL_law 895 = .ok (.iadd, 1) := by decide +kernel
theorem dL_law_896 : decode cL_law 896 = .ok (.iaload, 1) := by decide +kernel
theorem dL_law_897 : decode cL_law 897 = .ok (.aload_n 0, 1) := by decide +kernel
theorem dL_law_898 : decode cL_law 898 = .ok (.iload_n 3, 1) := by decide +kernel
theorem dL_law_899 : decode cL_law 899 = .ok (.bipush 6, 2) := by decide +kernel
theorem dL_law_901 : decode cL_law 901 = .ok (.iadd, 1) := by decide +kernel
theorem dL_law_902 : decode cL_law 902 = .ok (.iaload, 1) := by decide +kernel
theorem dL_law_903 : decode cL_law 903 = .ok (.ifCond .eq 7, 3) := by decide +kernel
theorem dL_law_906 : decode cL_law 906 = .ok (.iconst 1, 1) := by decide +kernel
theorem dL_law_907 : decode cL_law 907 = .ok (.goto 4, 3) := by decide +kernel
theorem dL_law_910 : decode cL_law 910 = .ok (.iconst 0, 1) := by decide +kernel
theorem dL_law_911 : decode cL_law 911 = .ok (.invokevirtual 119, 3) := by decide +kernel
theorem dL_law_914 : decode cL_law 914 = .ok (.aload_n 2, 1) := by decide +kernel
theorem dL_law_915 : decode cL_law 915 = .ok (.aload_n 0, 1) := by decide +kernel
theorem dL_law_916 : decode cL_law 916 = .ok (.iload_n 3, 1) := by decide +kernel
theorem dL_law_917 : decode cL_law 917 = .ok (.iconst 1, 1) := by decide +kernel
theorem dL_law_918 : decode cL_law 918 = .ok (.iadd, 1) := by decide +kernel
theorem dL_law_919 : decode cL_law 919 = .ok (.iaload, 1) := by decide +kernel
theorem dL_law_920 : decode cL_law 920 = .ok (.aload_n 0, 1) := by decide +kernel
theorem dL_law_921 : decode cL_law 921 = .ok (.iload_n 3, 1) := by decide +kernel
theorem dL_law_922 : decode cL_law 922 = .ok (.iconst 2, 1) := by decide +kernel
theorem dL_law_923 : decode cL_law 923 = .ok (.iadd, 1) := by decide +kernel
theorem dL_law_924 : decode cL_law 924 = .ok (.iaload, 1) := by decide +kernel
theorem dL_law_925 : decode cL_law 925 = .ok (.aload_n 0, 1) := by decide +kernel
theorem dL_law_926 : decode cL_law 926 = .ok (.iload_n 3, 1) := by decide +kernel
theorem dL_law_927 : decode cL_law 927 = .ok (.iconst 3, 1) := by decide +kernel
theorem dL_law_928 : decode cL_law 928 = .ok (.iadd, 1) := by decide +kernel
theorem dL_law_929 : decode cL_law 929 = .ok (.iaload, 1) := by decide +kernel
theorem dL_law_930 : decode cL_law 930 = .ok (.aload_n 0, 1) := by decide +kernel
theorem dL_law_931 : decode cL_law 931 = .ok (.iload_n 3, 1) := by decide +kernel
theorem dL_law_932 : decode cL_law 932 = .ok (.iconst 4, 1) := by decide +kernel
theorem dL_law_933 : decode cL_law 933 = .ok (.iadd, 1) := by decide +kernel
theorem dL_law_934 : decode cL_law 934 = .ok (.iaload, 1) := by decide +kernel
theorem dL_law_935 : decode cL_law 935 = .ok (.aload_n 0, 1) := by decide +kernel
theorem dL_law_936 : decode cL_law 936 = .ok (.iload_n 3, 1) := by decide +kernel
theorem dL_law_937 : decode cL_law 937 = .ok (.iconst 5, 1) := by decide +kernel
theorem dL_law_938 : decode cL_law 938 = .ok (.iadd, 1) := by decide +kernel
theorem dL_law_939 : decode cL_law 939 = .ok (.iaload, 1) := by decide +kernel
theorem dL_law_940 : decode cL_law 940 = .ok (.aload_n 0, 1) := by decide +kernel
theorem dL_law_941 : decode cL_law 941 = .ok (.iload_n 3, 1) := by decide +kernel
theorem dL_law_942 : decode cL_law 942 = .ok (.bipush 6, 2) := by decide +kernel
theorem dL_law_944 : decode cL_law 944 = .ok (.iadd, 1) := by decide +kernel
theorem dL_law_945 : decode cL_law 945 = .ok (.iaload, 1) := by decide +kernel
theorem dL_law_946 : decode cL_law 946 = .ok (.ifCond .eq 7, 3) := by decide +kernel
theorem dL_law_949 : decode cL_law 949 = .ok (.iconst 1, 1) := by decide +kernel
theorem dL_law_950 : decode cL_law 950 = .ok (.goto 4, 3) := by decide +kernel
theorem dL_law_953 : decode cL_law 953 = .ok (.iconst 0, 1) := by decide +kernel
theorem dL_law_954 : decode cL_law 954 = .ok (.invokevirtual 123, 3) := by decide +kernel
theorem dL_law_957 : decode cL_law 957 = .ok (.if_icmp .eq 128, 3) := by decide +kernel
theorem dL_law_960 : decode cL_law 960 = .ok (.iconst 0, 1) := by decide +kernel
theorem dL_law_961 : decode cL_law 961 = .ok (.ireturn, 1) := by decide +kernel
theorem dL_law_962 : decode cL_law 962 = .ok (.aload_n 1, 1) := by decide +kernel
theorem dL_law_963 : decode cL_law 963 = .ok (.aload_n 0, 1) := by decide +kernel
theorem dL_law_964 : decode cL_law 964 = .ok (.iload_n 3, 1) := by decide +kernel
theorem dL_law_965 : decode cL_law 965 = .ok (.iconst 1, 1) := by decide +kernel
theorem dL_law_966 : decode cL_law 966 = .ok (.iadd, 1) := by decide +kernel
theorem dL_law_967 : decode cL_law 967 = .ok (.iaload, 1) := by decide +kernel
theorem dL_law_968 : decode cL_law 968 = .ok (.i2l, 1) := by decide +kernel
theorem dL_law_969 : decode cL_law 969 = .ok (.bipush 32, 2) := by decide +kernel
theorem dL_law_971 : decode cL_law 971 = .ok (.lshl, 1) := by decide +kernel
theorem dL_law_972 : decode cL_law 972 = .ok (.aload_n 0, 1) := by decide +kernel
theorem dL_law_973 : decode cL_law 973 = .ok (.iload_n 3, 1) := by decide +kernel
theorem dL_law_974 : decode cL_law 974 = .ok (.iconst 2, 1) := by decide +kernel
theorem dL_law_975 : decode cL_law 975 = .ok (.iadd, 1) := by decide +kernel
theorem dL_law_976 : decode cL_law 976 = .ok (.iaload, 1) := by decide +kernel
theorem dL_law_977 : decode cL_law 977 = .ok (.i2l, 1) := by decide +kernel
theorem dL_law_978 : decode cL_law 978 = .ok (.ldc2_w 124, 3) := by decide +kernel
theorem dL_law_981 : decode cL_law 981 = .ok (.land, 1) := by decide +kernel
theorem dL_law_982 : decode cL_law 982 = .ok (.lor, 1) := by decide +kernel
theorem dL_law_983 : decode cL_law 983 = .ok (.invokevirtual 126, 3) := by decide +kernel
theorem dL_law_986 : decode cL_law 986 = .ok (.aload_n 2, 1) := by decide +kernel
theorem dL_law_987 : decode cL_law 987 = .ok (.aload_n 0, 1) := by decide +kernel
theorem dL_law_988 : decode cL_law 988 = .ok (.iload_n 3, 1) := by decide +kernel
theorem dL_law_989 : decode cL_law 989 = .ok (.iconst 1, 1) := by decide +kernel
theorem dL_law_990 : decode cL_law 990 = .ok (.iadd, 1) := by decide +kernel
theorem dL_law_991 : decode cL_law 991 = .ok (.iaload, 1) := by decide +kernel
theorem dL_law_992 : decode cL_law 992 = .ok (.i2l, 1) := by decide +kernel
theorem dL_law_993 : decode cL_law 993 = .ok (.bipush 32, 2) := by decide +kernel
theorem dL_law_995 : decode cL_law 995 = .ok (.lshl, 1) := by decide +kernel
theorem dL_law_996 : decode cL_law 996 = .ok (.aload_n 0, 1) := by decide +kernel
theorem dL_law_997 : decode cL_law 997 = .ok (.iload_n 3, 1) := by decide +kernel
theorem dL_law_998 : decode cL_law 998 = .ok (.iconst 2, 1) := by decide +kernel
theorem dL_law_999 : decode cL_law 999 = .ok (.iadd, 1) := by decide +kernel
theorem dL_law_1000 : decode cL_law 1000 = .ok (.iaload, 1) := by decide +kernel
theorem dL_law_1001 : decode cL_law 1001 = .ok (.i2l, 1) := by decide +kernel
theorem dL_law_1002 : decode cL_law 1002 = .ok (.ldc2_w 124, 3) := by decide +kernel
theorem dL_law_1005 : decode cL_law 1005 = .ok (.land, 1) := by decide +kernel
theorem dL_law_1006 : decode cL_law 1006 = .ok (.lor, 1) := by decide +kernel
theorem dL_law_1007 : decode cL_law 1007 = .ok (.invokevirtual 130, 3) := by decide +kernel
theorem dL_law_1010 : decode cL_law 1010 = .ok (.lcmp, 1) := by decide +kernel
theorem dL_law_1011 : decode cL_law 1011 = .ok (.ifCond .eq 74, 3) := by decide +kernel
theorem dL_law_1014 : decode cL_law 1014 = .ok (.iconst 0, 1) := by decide +kernel
theorem dL_law_1015 : decode cL_law 1015 = .ok (.ireturn, 1) := by decide +kernel
theorem dL_law_1016 : decode cL_law 1016 = .ok (.aload_n 1, 1) := by decide +kernel
theorem dL_law_1017 : decode cL_law 1017 = .ok (.aload_n 0, 1) := by decide +kernel
theorem dL_law_1018 : decode cL_law 1018 = .ok (.iload_n 3, 1) := by decide +kernel
theorem dL_law_1019 : decode cL_law 1019 = .ok (.iconst 1, 1) := by decide +kernel
theorem dL_law_1020 : decode cL_law 1020 = .ok (.iadd, 1) := by decide +kernel
theorem dL_law_1021 : decode cL_law 1021 = .ok (.iaload, 1) := by decide +kernel
theorem dL_law_1022 : decode cL_law 1022 = .ok (.invokevirtual 131, 3) := by decide +kernel
theorem dL_law_1025 : decode cL_law 1025 = .ok (.aload_n 2, 1) := by decide +kernel
theorem dL_law_1026 : decode cL_law 1026 = .ok (.aload_n 0, 1) := by decide +kernel
theorem dL_law_1027 : decode cL_law 1027 = .ok (.iload_n 3, 1) := by decide +kernel
theorem dL_law_1028 : decode cL_law 1028 = .ok (.iconst 1, 1) := by decide +kernel
theorem dL_law_1029 : decode cL_law 1029 = .ok (.iadd, 1) := by decide +kernel
theorem dL_law_1030 : decode cL_law 1030 = .ok (.iaload, 1) := by decide +kernel
theorem dL_law_1031 : decode cL_law 1031 = .ok (.invokevirtual 134, 3) := by decide +kernel
theorem dL_law_1034 : decode cL_law 1034 = .ok (.if_icmp .eq 51, 3) := by decide +kernel
theorem dL_law_1037 : decode cL_law 1037 = .ok (.iconst 0, 1) := by decide +kernel
theorem dL_law_1038 : decode cL_law 1038 = .ok (.ireturn, 1) := by decide +kernel
theorem dL_law_1039 : decode cL_law 1039 = .ok (.aload_n 1, 1) := by decide +kernel
theorem dL_law_1040 : decode cL_law 1040 = .ok (.aload_n 0, 1) := by decide +kernel
theorem dL_law_1041 : decode cL_law 1041 = .ok (.iload_n 3, 1) := by decide +kernel
theorem dL_law_1042 : decode cL_law 1042 = .ok (.iconst 1, 1) := by decide +kernel
theorem dL_law_1043 : decode cL_law 1043 = .ok (.iadd, 1) := by decide +kernel
theorem dL_law_1044 : decode cL_law 1044 = .ok (.iaload, 1) := by decide +kernel
theorem dL_law_1045 : decode cL_law 1045 = .ok (.invokevirtual 135, 3) := by decide +kernel
theorem dL_law_1048 : decode cL_law 1048 = .ok (.aload_n 2, 1) := by decide +kernel
theorem dL_law_1049 : decode cL_law 1049 = .ok (.aload_n 0, 1) := by decide +kernel
theorem dL_law_1050 : decode cL_law 1050 = .ok (.iload_n 3, 1) := by decide +kernel
theorem dL_law_1051 : decode cL_law 1051 = .ok (.iconst 1, 1) := by decide +kernel
theorem dL_law_1052 : decode cL_law 1052 = .ok (.iadd, 1) := by decide +kernel
theorem dL_law_1053 : decode cL_law 1053 = .ok (.iaload, 1) := by decide +kernel
theorem dL_law_1054 : decode cL_law 1054 = .ok (.invokevirtual 138, 3) := by decide +kernel
theorem dL_law_1057 : decode cL_law 1057 = .ok (.if_icmp .eq 28, 3) := by decide +kernel
theorem dL_law_1060 : decode cL_law 1060 = .ok (.iconst 0, 1) := by decide +kernel
theorem dL_law_1061 : decode cL_law 1061 = .ok (.ireturn, 1) := by decide +kernel
theorem dL_law_1062 : decode cL_law 1062 = .ok (.aload_n 1, 1) := by decide +kernel
theorem dL_law_1063 : decode cL_law 1063 = .ok (.aload_n 0, 1) := by decide +kernel
theorem dL_law_1064 : decode cL_law 1064 = .ok (.iload_n 3, 1) := by decide +kernel
theorem dL_law_1065 : decode cL_law 1065 = .ok (.iconst 1, 1) := by decide +kernel
theorem dL_law_1066 : decode cL_law 1066 = .ok (.iadd, 1) := by decide +kernel
theorem dL_law_1067 : decode cL_law 1067 = .ok (.iaload, 1) := by decide +kernel
theorem dL_law_1068 : decode cL_law 1068 = .ok (.invokevirtual 139, 3) := by decide +kernel
theorem dL_law_1071 : decode cL_law 1071 = .ok (.aload_n 2, 1) := by decide +kernel
theorem dL_law_1072 : decode cL_law 1072 = .ok (.aload_n 0, 1) := by decide +kernel
theorem dL_law_1073 : decode cL_law 1073 = .ok (.iload_n 3, 1) := by decide +kernel
theorem dL_law_1074 : decode cL_law 1074 = .ok (.iconst 1, 1) := by decide +kernel
theorem dL_law_1075 : decode cL_law 1075 = .ok (.iadd, 1) := by decide +kernel
theorem dL_law_1076 : decode cL_law 1076 = .ok (.iaload, 1) := by decide +kernel
theorem dL_law_1077 : decode cL_law 1077 = .ok (.invokevirtual 142, 3) := by decide +kernel
theorem dL_law_1080 : decode cL_law 1080 = .ok (.if_icmp .eq 5, 3) := by decide +kernel
theorem dL_law_1083 : decode cL_law 1083 = .ok (.iconst 0, 1) := by decide +kernel
theorem dL_law_1084 : decode cL_law 1084 = .ok (.ireturn, 1) := by decide +kernel
theorem dL_law_1085 : decode cL_law 1085 = .ok (.iinc 3 7, 3) := by decide +kernel
theorem dL_law_1088 : decode cL_law 1088 = .ok (.goto (-1070), 3) := by decide +kernel
theorem dL_law_1091 : decode cL_law 1091 = .ok (.iconst 1, 1) := by decide +kernel
theorem dL_law_1092 : decode cL_law 1092 = .ok (.ireturn, 1) := by decide +kernel
