theorem d_Mo_takeRuns_23 : decode b_Mo_takeRuns 23 = .ok (.iload_n 3, 1) := by decide +kernel
theorem d_Mo_takeRuns_24 : decode b_Mo_takeRuns 24 = .ok (.isub, 1) := by decide +kernel
theorem d_Mo_takeRuns_25 : decode b_Mo_takeRuns 25 = .ok (.invokevirtual 182, 3) := by decide +kernel
theorem d_Mo_takeRuns_28 : decode b_Mo_takeRuns 28 = .ok (.istore 4, 2) := by decide +kernel
theorem d_Mo_takeRuns_30 : decode b_Mo_takeRuns 30 = .ok (.aload_n 0, 1) := by decide +kernel
theorem d_Mo_takeRuns_31 : decode b_Mo_takeRuns 31 = .ok (.iload_n 1, 1) := by decide +kernel
theorem d_Mo_takeRuns_32 : decode b_Mo_takeRuns 32 = .ok (.invokevirtual 185, 3) := by decide +kernel
theorem d_Mo_takeRuns_35 : decode b_Mo_takeRuns 35 = .ok (.istore 5, 2) := by decide +kernel
theorem d_Mo_takeRuns_37 : decode b_Mo_takeRuns 37 = .ok (.iconst 0, 1) := by decide +kernel
theorem d_Mo_takeRuns_38 : decode b_Mo_takeRuns 38 = .ok (.istore 6, 2) := by decide +kernel
theorem d_Mo_takeRuns_40 : decode b_Mo_takeRuns 40 = .ok (.iload 6, 2) := by decide +kernel
theorem d_Mo_takeRuns_42 : decode b_Mo_takeRuns 42 = .ok (.iload 4, 2) := by decide +kernel
theorem d_Mo_takeRuns_44 : decode b_Mo_takeRuns 44 = .ok (.if_icmp .ge 32, 3) := by decide +kernel
theorem d_Mo_takeRuns_47 : decode b_Mo_takeRuns 47 = .ok (.aload_n 0, 1) := by decide +kernel
theorem d_Mo_takeRuns_48 : decode b_Mo_takeRuns 48 = .ok (.getfield 169, 3) := by decide +kernel
theorem d_Mo_takeRuns_51 : decode b_Mo_takeRuns 51 = .ok (.ifCond .ge 25, 3) := by decide +kernel
theorem d_Mo_takeRuns_54 : decode b_Mo_takeRuns 54 = .ok (.aload_n 0, 1) := by decide +kernel
theorem d_Mo_takeRuns_55 : decode b_Mo_takeRuns 55 = .ok (.getfield 36, 3) := by decide +kernel
theorem d_Mo_takeRuns_58 : decode b_Mo_takeRuns 58 = .ok (.aload_n 0, 1) := by decide +kernel
theorem d_Mo_takeRuns_59 : decode b_Mo_takeRuns 59 = .ok (.iload_n 1, 1) := by decide +kernel
theorem d_Mo_takeRuns_60 : decode b_Mo_takeRuns 60 = .ok (.iload_n 3, 1) := by decide +kernel
theorem d_Mo_takeRuns_61 : decode b_Mo_takeRuns 61 = .ok (.iload 6, 2) := by decide +kernel
theorem d_Mo_takeRuns_63 : decode b_Mo_takeRuns 63 = .ok (.iadd, 1) := by decide +kernel
theorem d_Mo_takeRuns_64 : decode b_Mo_takeRuns 64 = .ok (.invokevirtual 88, 3) := by decide +kernel
theorem d_Mo_takeRuns_67 : decode b_Mo_takeRuns 67 = .ok (.iload 5, 2) := by decide +kernel
theorem d_Mo_takeRuns_69 : decode b_Mo_takeRuns 69 = .ok (.iastore, 1) := by decide +kernel
theorem d_Mo_takeRuns_70 : decode b_Mo_takeRuns 70 = .ok (.iinc 6 1, 3) := by decide +kernel
theorem d_Mo_takeRuns_73 : decode b_Mo_takeRuns 73 = .ok (.goto (-33), 3) := by decide +kernel
theorem d_Mo_takeRuns_76 : decode b_Mo_takeRuns 76 = .ok (.iload_n 3, 1) := by decide +kernel
theorem d_Mo_takeRuns_77 : decode b_Mo_takeRuns 77 = .ok (.iload 4, 2) := by decide +kernel
theorem d_Mo_takeRuns_79 : decode b_Mo_takeRuns 79 = .ok (.iadd, 1) := by decide +kernel
theorem d_Mo_takeRuns_80 : decode b_Mo_takeRuns 80 = .ok (.istore_n 3, 1) := by decide +kernel
theorem d_Mo_takeRuns_81 : decode b_Mo_takeRuns 81 = .ok (.goto (-73), 3) := by decide +kernel
theorem d_Mo_takeRuns_84 : decode b_Mo_takeRuns 84 = .ok (.return_, 1) := by decide +kernel
abbrev b_Mo_takeLayer : ByteArray := prog_8_method_45_code
def y_Mo_takeLayer : MethodName := ⟨"MaskLayersModel", "takeLayer", "(I)V"⟩
theorem d_Mo_takeLayer_0 : decode b_Mo_takeLayer 0 = .ok (.aload_n 0, 1) := by decide +kernel
theorem d_Mo_takeLayer_1 : decode b_Mo_takeLayer 1 = .ok (.getfield 39, 3) := by decide +kernel
theorem d_Mo_takeLayer_4 : decode b_Mo_takeLayer 4 = .ok (.iload_n 1, 1) := by decide +kernel
theorem d_Mo_takeLayer_5 : decode b_Mo_takeLayer 5 = .ok (.iconst 1, 1) := by decide +kernel
theorem d_Mo_takeLayer_6 : decode b_Mo_takeLayer 6 = .ok (.bastore, 1) := by decide +kernel
theorem d_Mo_takeLayer_7 : decode b_Mo_takeLayer 7 = .ok (.aload_n 0, 1) := by decide +kernel
theorem d_Mo_takeLayer_8 : decode b_Mo_takeLayer 8 = .ok (.iconst 0, 1) := by decide +kernel
theorem d_Mo_takeLayer_9 : decode b_Mo_takeLayer 9 = .ok (.iconst 1, 1) := by decide +kernel
theorem d_Mo_takeLayer_10 : decode b_Mo_takeLayer 10 = .ok (.invokevirtual 182, 3) := by decide +kernel
theorem d_Mo_takeLayer_13 : decode b_Mo_takeLayer 13 = .ok (.istore_n 2, 1) := by decide +kernel
theorem d_Mo_takeLayer_14 : decode b_Mo_takeLayer 14 = .ok (.aload_n 0, 1) := by decide +kernel
theorem d_Mo_takeLayer_15 : decode b_Mo_takeLayer 15 = .ok (.getfield 172, 3) := by decide +kernel
theorem d_Mo_takeLayer_18 : decode b_Mo_takeLayer 18 = .ok (.istore_n 3, 1) := by decide +kernel
theorem d_Mo_takeLayer_19 : decode b_Mo_takeLayer 19 = .ok (.aload_n 0, 1) := by decide +kernel
theorem d_Mo_takeLayer_20 : decode b_Mo_takeLayer 20 = .ok (.invokevirtual 178, 3) := by decide +kernel
theorem d_Mo_takeLayer_23 : decode b_Mo_takeLayer 23 = .ok (.istore 4, 2) := by decide +kernel
theorem d_Mo_takeLayer_25 : decode b_Mo_takeLayer 25 = .ok (.iload 4, 2) := by decide +kernel
theorem d_Mo_takeLayer_27 : decode b_Mo_takeLayer 27 = .ok (.aload_n 0, 1) := by decide +kernel
theorem d_Mo_takeLayer_28 : decode b_Mo_takeLayer 28 = .ok (.invokevirtual 178, 3) := by decide +kernel
theorem d_Mo_takeLayer_31 : decode b_Mo_takeLayer 31 = .ok (.bipush 8, 2) := by decide +kernel
theorem d_Mo_takeLayer_33 : decode b_Mo_takeLayer 33 = .ok (.ishl, 1) := by decide +kernel
theorem d_Mo_takeLayer_34 : decode b_Mo_takeLayer 34 = .ok (.iadd, 1) := by decide +kernel
theorem d_Mo_takeLayer_35 : decode b_Mo_takeLayer 35 = .ok (.istore 4, 2) := by decide +kernel
theorem d_Mo_takeLayer_37 : decode b_Mo_takeLayer 37 = .ok (.aload_n 0, 1) := by decide +kernel
theorem d_Mo_takeLayer_38 : decode b_Mo_takeLayer 38 = .ok (.getfield 169, 3) := by decide +kernel
theorem d_Mo_takeLayer_41 : decode b_Mo_takeLayer 41 = .ok (.ifCond .lt 4, 3) := by decide +kernel
theorem d_Mo_takeLayer_44 : decode b_Mo_takeLayer 44 = .ok (.return_, 1) := by decide +kernel
theorem d_Mo_takeLayer_45 : decode b_Mo_takeLayer 45 = .ok (.iload_n 2, 1) := by decide +kernel
theorem d_Mo_takeLayer_46 : decode b_Mo_takeLayer 46 = .ok (.ifCond .ne 19, 3) := by decide +kernel
theorem d_Mo_takeLayer_49 : decode b_Mo_takeLayer 49 = .ok (.iload 4, 2) := by decide +kernel
theorem d_Mo_takeLayer_51 : decode b_Mo_takeLayer 51 = .ok (.aload_n 0, 1) := by decide +kernel
theorem d_Mo_takeLayer_52 : decode b_Mo_takeLayer 52 = .ok (.iload_n 1, 1) := by decide +kernel
theorem d_Mo_takeLayer_53 : decode b_Mo_takeLayer 53 = .ok (.invokevirtual 156, 3) := by decide +kernel
theorem d_Mo_takeLayer_56 : decode b_Mo_takeLayer 56 = .ok (.if_icmp .eq 9, 3) := by decide +kernel
theorem d_Mo_takeLayer_59 : decode b_Mo_takeLayer 59 = .ok (.aload_n 0, 1) := by decide +kernel
theorem d_Mo_takeLayer_60 : decode b_Mo_takeLayer 60 = .ok (.iload_n 3, 1) := by decide +kernel
theorem d_Mo_takeLayer_61 : decode b_Mo_takeLayer 61 = .ok (.invokevirtual 175, 3) := by decide +kernel
theorem d_Mo_takeLayer_64 : decode b_Mo_takeLayer 64 = .ok (.return_, 1) := by decide +kernel
theorem d_Mo_takeLayer_65 : decode b_Mo_takeLayer 65 = .ok (.aload_n 0, 1) := by decide +kernel
theorem d_Mo_takeLayer_66 : decode b_Mo_takeLayer 66 = .ok (.getfield 172, 3) := by decide +kernel
theorem d_Mo_takeLayer_69 : decode b_Mo_takeLayer 69 = .ok (.istore 5, 2) := by decide +kernel
theorem d_Mo_takeLayer_71 : decode b_Mo_takeLayer 71 = .ok (.iload_n 2, 1) := by decide +kernel
theorem d_Mo_takeLayer_72 : decode b_Mo_takeLayer 72 = .ok (.ifCond .ne 11, 3) := by decide +kernel
theorem d_Mo_takeLayer_75 : decode b_Mo_takeLayer 75 = .ok (.aload_n 0, 1) := by decide +kernel
theorem d_Mo_takeLayer_76 : decode b_Mo_takeLayer 76 = .ok (.iload_n 1, 1) := by decide +kernel
theorem d_Mo_takeLayer_77 : decode b_Mo_takeLayer 77 = .ok (.invokevirtual 188, 3) := by decide +kernel
theorem d_Mo_takeLayer_80 : decode b_Mo_takeLayer 80 = .ok (.goto 32, 3) := by decide +kernel
theorem d_Mo_takeLayer_83 : decode b_Mo_takeLayer 83 = .ok (.aload_n 0, 1) := by decide +kernel
theorem d_Mo_takeLayer_84 : decode b_Mo_takeLayer 84 = .ok (.iload_n 1, 1) := by decide +kernel
theorem d_Mo_takeLayer_85 : decode b_Mo_takeLayer 85 = .ok (.invokevirtual 191, 3) := by decide +kernel
theorem d_Mo_takeLayer_88 : decode b_Mo_takeLayer 88 = .ok (.aload_n 0, 1) := by decide +kernel
theorem d_Mo_takeLayer_89 : decode b_Mo_takeLayer 89 = .ok (.getfield 169, 3) := by decide +kernel
theorem d_Mo_takeLayer_92 : decode b_Mo_takeLayer 92 = .ok (.ifCond .ge 20, 3) := by decide +kernel
theorem d_Mo_takeLayer_95 : decode b_Mo_takeLayer 95 = .ok (.aload_n 0, 1) := by decide +kernel
theorem d_Mo_takeLayer_96 : decode b_Mo_takeLayer 96 = .ok (.getfield 172, 3) := by decide +kernel
theorem d_Mo_takeLayer_99 : decode b_Mo_takeLayer 99 = .ok (.iload 5, 2) := by decide +kernel
theorem d_Mo_takeLayer_101 : decode b_Mo_takeLayer 101 = .ok (.isub, 1) := by decide +kernel
theorem d_Mo_takeLayer_102 : decode b_Mo_takeLayer 102 = .ok (.iload 4, 2) := by decide +kernel
theorem d_Mo_takeLayer_104 : decode b_Mo_takeLayer 104 = .ok (.if_icmp .eq 8, 3) := by decide +kernel
theorem d_Mo_takeLayer_107 : decode b_Mo_takeLayer 107 = .ok (.aload_n 0, 1) := by decide +kernel
theorem d_Mo_takeLayer_108 : decode b_Mo_takeLayer 108 = .ok (.iload_n 3, 1) := by decide +kernel
theorem d_Mo_takeLayer_109 : decode b_Mo_takeLayer 109 = .ok (.invokevirtual 175, 3) := by decide +kernel
theorem d_Mo_takeLayer_112 : decode b_Mo_takeLayer 112 = .ok (.return_, 1) := by decide +kernel
abbrev b_Mo_takeStripe : ByteArray := prog_8_method_46_code
def y_Mo_takeStripe : MethodName := ⟨"MaskLayersModel", "takeStripe", "()I"⟩
theorem d_Mo_takeStripe_0 : decode b_Mo_takeStripe 0 = .ok (.iconst (-1), 1) := by decide +kernel
theorem d_Mo_takeStripe_1 : decode b_Mo_takeStripe 1 = .ok (.istore_n 1, 1) := by decide +kernel
theorem d_Mo_takeStripe_2 : decode b_Mo_takeStripe 2 = .ok (.iconst 0, 1) := by decide +kernel
theorem d_Mo_takeStripe_3 : decode b_Mo_takeStripe 3 = .ok (.istore_n 2, 1) := by decide +kernel
theorem d_Mo_takeStripe_4 : decode b_Mo_takeStripe 4 = .ok (.iconst 0, 1) := by decide +kernel
theorem d_Mo_takeStripe_5 : decode b_Mo_takeStripe 5 = .ok (.istore_n 3, 1) := by decide +kernel
theorem d_Mo_takeStripe_6 : decode b_Mo_takeStripe 6 = .ok (.iload_n 3, 1) := by decide +kernel
theorem d_Mo_takeStripe_7 : decode b_Mo_takeStripe 7 = .ok (.iconst 4, 1) := by decide +kernel
theorem d_Mo_takeStripe_8 : decode b_Mo_takeStripe 8 = .ok (.if_icmp .ge 16, 3) := by decide +kernel
theorem d_Mo_takeStripe_11 : decode b_Mo_takeStripe 11 = .ok (.aload_n 0, 1) := by decide +kernel
theorem d_Mo_takeStripe_12 : decode b_Mo_takeStripe 12 = .ok (.getfield 39, 3) := by decide +kernel
theorem d_Mo_takeStripe_15 : decode b_Mo_takeStripe 15 = .ok (.iload_n 3, 1) := by decide +kernel
theorem d_Mo_takeStripe_16 : decode b_Mo_takeStripe 16 = .ok (.iconst 0, 1) := by decide +kernel
theorem d_Mo_takeStripe_17 : decode b_Mo_takeStripe 17 = .ok (.bastore, 1) := by decide +kernel
theorem d_Mo_takeStripe_18 : decode b_Mo_takeStripe 18 = .ok (.iinc 3 1, 3) := by decide +kernel
theorem d_Mo_takeStripe_21 : decode b_Mo_takeStripe 21 = .ok (.goto (-15), 3) := by decide +kernel
theorem d_Mo_takeStripe_24 : decode b_Mo_takeStripe 24 = .ok (.iconst 1, 1) := by decide +kernel
theorem d_Mo_takeStripe_25 : decode b_Mo_takeStripe 25 = .ok (.istore_n 3, 1) := by decide +kernel
theorem d_Mo_takeStripe_26 : decode b_Mo_takeStripe 26 = .ok (.iload_n 3, 1) := by decide +kernel
theorem d_Mo_takeStripe_27 : decode b_Mo_takeStripe 27 = .ok (.ifCond .eq 175, 3) := by decide +kernel
theorem d_Mo_takeStripe_30 : decode b_Mo_takeStripe 30 = .ok (.aload_n 0, 1) := by decide +kernel
theorem d_Mo_takeStripe_31 : decode b_Mo_takeStripe 31 = .ok (.getfield 169, 3) := by decide +kernel
theorem d_Mo_takeStripe_34 : decode b_Mo_takeStripe 34 = .ok (.ifCond .ge 168, 3) := by decide +kernel
theorem d_Mo_takeStripe_37 : decode b_Mo_takeStripe 37 = .ok (.aload_n 0, 1) := by decide +kernel
theorem d_Mo_takeStripe_38 : decode b_Mo_takeStripe 38 = .ok (.invokevirtual 178, 3) := by decide +kernel
theorem d_Mo_takeStripe_41 : decode b_Mo_takeStripe 41 = .ok (.istore 4, 2) := by decide +kernel
theorem d_Mo_takeStripe_43 : decode b_Mo_takeStripe 43 = .ok (.aload_n 0, 1) := by decide +kernel
theorem d_Mo_takeStripe_44 : decode b_Mo_takeStripe 44 = .ok (.getfield 169, 3) := by decide +kernel
theorem d_Mo_takeStripe_47 : decode b_Mo_takeStripe 47 = .ok (.ifCond .lt 5, 3) := by decide +kernel
theorem d_Mo_takeStripe_50 : decode b_Mo_takeStripe 50 = .ok (.iload_n 2, 1) := by decide +kernel
theorem d_Mo_takeStripe_51 : decode b_Mo_takeStripe 51 = .ok (.ireturn, 1) := by decide +kernel
theorem d_Mo_takeStripe_52 : decode b_Mo_takeStripe 52 = .ok (.iload 4, 2) := by decide +kernel
theorem d_Mo_takeStripe_54 : decode b_Mo_takeStripe 54 = .ok (.sipush 160, 3) := by decide +kernel
theorem d_Mo_takeStripe_57 : decode b_Mo_takeStripe 57 = .ok (.isub, 1) := by decide +kernel
theorem d_Mo_takeStripe_58 : decode b_Mo_takeStripe 58 = .ok (.istore 5, 2) := by decide +kernel
theorem d_Mo_takeStripe_60 : decode b_Mo_takeStripe 60 = .ok (.aload_n 0, 1) := by decide +kernel
theorem d_Mo_takeStripe_61 : decode b_Mo_takeStripe 61 = .ok (.getfield 39, 3) := by decide +kernel
theorem d_Mo_takeStripe_64 : decode b_Mo_takeStripe 64 = .ok (.iconst 0, 1) := by decide +kernel
theorem d_Mo_takeStripe_65 : decode b_Mo_takeStripe 65 = .ok (.baload, 1) := by decide +kernel
theorem d_Mo_takeStripe_66 : decode b_Mo_takeStripe 66 = .ok (.ifCond .ne 12, 3) := by decide +kernel
theorem d_Mo_takeStripe_69 : decode b_Mo_takeStripe 69 = .ok (.aload_n 0, 1) := by decide +kernel
theorem d_Mo_takeStripe_70 : decode b_Mo_takeStripe 70 = .ok (.getfield 39, 3) := by decide +kernel
theorem d_Mo_takeStripe_73 : decode b_Mo_takeStripe 73 = .ok (.iconst 2, 1) := by decide +kernel
theorem d_Mo_takeStripe_74 : decode b_Mo_takeStripe 74 = .ok (.baload, 1) := by decide +kernel
theorem d_Mo_takeStripe_75 : decode b_Mo_takeStripe 75 = .ok (.ifCond .eq 7, 3) := by decide +kernel
theorem d_Mo_takeStripe_78 : decode b_Mo_takeStripe 78 = .ok (.iconst 1, 1) := by decide +kernel
theorem d_Mo_takeStripe_79 : decode b_Mo_takeStripe 79 = .ok (.goto 4, 3) := by decide +kernel
theorem d_Mo_takeStripe_82 : decode b_Mo_takeStripe 82 = .ok (.iconst 0, 1) := by decide +kernel
theorem d_Mo_takeStripe_83 : decode b_Mo_takeStripe 83 = .ok (.istore 6, 2) := by decide +kernel
theorem d_Mo_takeStripe_85 : decode b_Mo_takeStripe 85 = .ok (.iload 4, 2) := by decide +kernel
theorem d_Mo_takeStripe_87 : decode b_Mo_takeStripe 87 = .ok (.sipush 175, 3) := by decide +kernel
theorem d_Mo_takeStripe_90 : decode b_Mo_takeStripe 90 = .ok (.if_icmp .ne 41, 3) := by decide +kernel
theorem d_Mo_takeStripe_93 : decode b_Mo_takeStripe 93 = .ok (.iconst 0, 1) := by decide +kernel
theorem d_Mo_takeStripe_94 : decode b_Mo_takeStripe 94 = .ok (.istore_n 3, 1) := by decide +kernel
theorem d_Mo_takeStripe_95 : decode b_Mo_takeStripe 95 = .ok (.aload_n 0, 1) := by decide +kernel
theorem d_Mo_takeStripe_96 : decode b_Mo_takeStripe 96 = .ok (.getfield 39, 3) := by decide +kernel
theorem d_Mo_takeStripe_99 : decode b_Mo_takeStripe 99 = .ok (.iconst 1, 1) := by decide +kernel
theorem d_Mo_takeStripe_100 : decode b_Mo_takeStripe 100 = .ok (.baload, 1) := by decide +kernel
theorem d_Mo_takeStripe_101 : decode b_Mo_takeStripe 101 = .ok (.ifCond .eq 12, 3) := by decide +kernel
theorem d_Mo_takeStripe_104 : decode b_Mo_takeStripe 104 = .ok (.aload_n 0, 1) := by decide +kernel
theorem d_Mo_takeStripe_105 : decode b_Mo_takeStripe 105 = .ok (.getfield 39, 3) := by decide +kernel
theorem d_Mo_takeStripe_108 : decode b_Mo_takeStripe 108 = .ok (.iconst 2, 1) := by decide +kernel
theorem d_Mo_takeStripe_109 : decode b_Mo_takeStripe 109 = .ok (.baload, 1) := by decide +kernel
theorem d_Mo_takeStripe_110 : decode b_Mo_takeStripe 110 = .ok (.ifCond .eq 8, 3) := by decide +kernel
theorem d_Mo_takeStripe_113 : decode b_Mo_takeStripe 113 = .ok (.iload 6, 2) := by decide +kernel
theorem d_Mo_takeStripe_115 : decode b_Mo_takeStripe 115 = .ok (.ifCond .ne 84, 3) := by decide +kernel
theorem d_Mo_takeStripe_118 : decode b_Mo_takeStripe 118 = .ok (.aload_n 0, 1) := by decide +kernel
theorem d_Mo_takeStripe_119 : decode b_Mo_takeStripe 119 = .ok (.aload_n 0, 1) := by decide +kernel
theorem d_Mo_takeStripe_120 : decode b_Mo_takeStripe 120 = .ok (.getfield 172, 3) := by decide +kernel
theorem d_Mo_takeStripe_123 : decode b_Mo_takeStripe 123 = .ok (.iconst 1, 1) := by decide +kernel
theorem d_Mo_takeStripe_124 : decode b_Mo_takeStripe 124 = .ok (.isub, 1) := by decide +kernel
theorem d_Mo_takeStripe_125 : decode b_Mo_takeStripe 125 = .ok (.invokevirtual 175, 3) := by decide +kernel
theorem d_Mo_takeStripe_128 : decode b_Mo_takeStripe 128 = .ok (.goto 71, 3) := by decide +kernel
theorem d_Mo_takeStripe_131 : decode b_Mo_takeStripe 131 = .ok (.iload 5, 2) := by decide +kernel
theorem d_Mo_takeStripe_133 : decode b_Mo_takeStripe 133 = .ok (.ifCond .lt 41, 3) := by decide +kernel
theorem d_Mo_takeStripe_136 : decode b_Mo_takeStripe 136 = .ok (.iload 5, 2) := by decide +kernel
theorem d_Mo_takeStripe_138 : decode b_Mo_takeStripe 138 = .ok (.iconst 3, 1) := by decide +kernel
theorem d_Mo_takeStripe_139 : decode b_Mo_takeStripe 139 = .ok (.if_icmp .gt 35, 3) := by decide +kernel
theorem d_Mo_takeStripe_142 : decode b_Mo_takeStripe 142 = .ok (.iload 5, 2) := by decide +kernel
theorem d_Mo_takeStripe_144 : decode b_Mo_takeStripe 144 = .ok (.iload_n 1, 1) := by decide +kernel
theorem d_Mo_takeStripe_145 : decode b_Mo_takeStripe 145 = .ok (.if_icmp .le 29, 3) := by decide +kernel
theorem d_Mo_takeStripe_148 : decode b_Mo_takeStripe 148 = .ok (.iload 5, 2) := by decide +kernel
theorem d_Mo_takeStripe_150 : decode b_Mo_takeStripe 150 = .ok (.iconst 2, 1) := by decide +kernel
theorem d_Mo_takeStripe_151 : decode b_Mo_takeStripe 151 = .ok (.if_icmp .ne 12, 3) := by decide +kernel
theorem d_Mo_takeStripe_154 : decode b_Mo_takeStripe 154 = .ok (.aload_n 0, 1) := by decide +kernel
theorem d_Mo_takeStripe_155 : decode b_Mo_takeStripe 155 = .ok (.getfield 39, 3) := by decide +kernel
theorem d_Mo_takeStripe_158 : decode b_Mo_takeStripe 158 = .ok (.iconst 1, 1) := by decide +kernel
theorem d_Mo_takeStripe_159 : decode b_Mo_takeStripe 159 = .ok (.baload, 1) := by decide +kernel
theorem d_Mo_takeStripe_160 : decode b_Mo_takeStripe 160 = .ok (.ifCond .eq 14, 3) := by decide +kernel
theorem d_Mo_takeStripe_163 : decode b_Mo_takeStripe 163 = .ok (.iload 5, 2) := by decide +kernel
theorem d_Mo_takeStripe_165 : decode b_Mo_takeStripe 165 = .ok (.iconst 3, 1) := by decide +kernel
theorem d_Mo_takeStripe_166 : decode b_Mo_takeStripe 166 = .ok (.if_icmp .ne 21, 3) := by decide +kernel
theorem d_Mo_takeStripe_169 : decode b_Mo_takeStripe 169 = .ok (.iload 6, 2) := by decide +kernel
theorem d_Mo_takeStripe_171 : decode b_Mo_takeStripe 171 = .ok (.ifCond .ne 16, 3) := by decide +kernel
theorem d_Mo_takeStripe_174 : decode b_Mo_takeStripe 174 = .ok (.aload_n 0, 1) := by decide +kernel
theorem d_Mo_takeStripe_175 : decode b_Mo_takeStripe 175 = .ok (.aload_n 0, 1) := by decide +kernel
theorem d_Mo_takeStripe_176 : decode b_Mo_takeStripe 176 = .ok (.getfield 172, 3) := by decide +kernel
theorem d_Mo_takeStripe_179 : decode b_Mo_takeStripe 179 = .ok (.iconst 1, 1) := by decide +kernel
theorem d_Mo_takeStripe_180 : decode b_Mo_takeStripe 180 = .ok (.isub, 1) := by decide +kernel
theorem d_Mo_takeStripe_181 : decode b_Mo_takeStripe 181 = .ok (.invokevirtual 175, 3) := by decide +kernel
theorem d_Mo_takeStripe_184 : decode b_Mo_takeStripe 184 = .ok (.goto 15, 3) := by decide +kernel
theorem d_Mo_takeStripe_187 : decode b_Mo_takeStripe 187 = .ok (.aload_n 0, 1) := by decide +kernel
theorem d_Mo_takeStripe_188 : decode b_Mo_takeStripe 188 = .ok (.iload 5, 2) := by decide +kernel
theorem d_Mo_takeStripe_190 : decode b_Mo_takeStripe 190 = .ok (.invokevirtual 194, 3) := by decide +kernel
theorem d_Mo_takeStripe_193 : decode b_Mo_takeStripe 193 = .ok (.iload 5, 2) := by decide +kernel
theorem d_Mo_takeStripe_195 : decode b_Mo_takeStripe 195 = .ok (.istore_n 1, 1) := by decide +kernel
theorem d_Mo_takeStripe_196 : decode b_Mo_takeStripe 196 = .ok (.iinc 2 1, 3) := by decide +kernel
theorem d_Mo_takeStripe_199 : decode b_Mo_takeStripe 199 = .ok (.goto (-173), 3) := by decide +kernel
theorem d_Mo_takeStripe_202 : decode b_Mo_takeStripe 202 = .ok (.iload_n 2, 1) := by decide +kernel
theorem d_Mo_takeStripe_203 : decode b_Mo_takeStripe 203 = .ok (.ireturn, 1) := by decide +kernel
abbrev b_Mo_joinStripe : ByteArray := prog_8_method_47_code
def y_Mo_joinStripe : MethodName := ⟨"MaskLayersModel", "joinStripe", "()V"⟩
theorem d_Mo_joinStripe_0 : decode b_Mo_joinStripe 0 = .ok (.iconst 0, 1) := by decide +kernel
theorem d_Mo_joinStripe_1 : decode b_Mo_joinStripe 1 = .ok (.istore_n 1, 1) := by decide +kernel
theorem d_Mo_joinStripe_2 : decode b_Mo_joinStripe 2 = .ok (.iload_n 1, 1) := by decide +kernel
theorem d_Mo_joinStripe_3 : decode b_Mo_joinStripe 3 = .ok (.aload_n 0, 1) := by decide +kernel
theorem d_Mo_joinStripe_4 : decode b_Mo_joinStripe 4 = .ok (.getfield 66, 3) := by decide +kernel
theorem d_Mo_joinStripe_7 : decode b_Mo_joinStripe 7 = .ok (.aload_n 0, 1) := by decide +kernel
theorem d_Mo_joinStripe_8 : decode b_Mo_joinStripe 8 = .ok (.getfield 72, 3) := by decide +kernel
theorem d_Mo_joinStripe_11 : decode b_Mo_joinStripe 11 = .ok (.imul, 1) := by decide +kernel
theorem d_Mo_joinStripe_12 : decode b_Mo_joinStripe 12 = .ok (.if_icmp .ge 137, 3) := by decide +kernel
theorem d_Mo_joinStripe_15 : decode b_Mo_joinStripe 15 = .ok (.iload_n 1, 1) := by decide +kernel
theorem d_Mo_joinStripe_16 : decode b_Mo_joinStripe 16 = .ok (.aload_n 0, 1) := by decide +kernel
theorem d_Mo_joinStripe_17 : decode b_Mo_joinStripe 17 = .ok (.getfield 66, 3) := by decide +kernel
theorem d_Mo_joinStripe_20 : decode b_Mo_joinStripe 20 = .ok (.irem, 1) := by decide +kernel
theorem d_Mo_joinStripe_21 : decode b_Mo_joinStripe 21 = .ok (.istore_n 2, 1) := by decide +kernel
theorem d_Mo_joinStripe_22 : decode b_Mo_joinStripe 22 = .ok (.aload_n 0, 1) := by decide +kernel
theorem d_Mo_joinStripe_23 : decode b_Mo_joinStripe 23 = .ok (.getfield 69, 3) := by decide +kernel
theorem d_Mo_joinStripe_26 : decode b_Mo_joinStripe 26 = .ok (.iload_n 1, 1) := by decide +kernel
theorem d_Mo_joinStripe_27 : decode b_Mo_joinStripe 27 = .ok (.aload_n 0, 1) := by decide +kernel
theorem d_Mo_joinStripe_28 : decode b_Mo_joinStripe 28 = .ok (.getfield 66, 3) := by decide +kernel
theorem d_Mo_joinStripe_31 : decode b_Mo_joinStripe 31 = .ok (.idiv, 1) := by decide +kernel
theorem d_Mo_joinStripe_32 : decode b_Mo_joinStripe 32 = .ok (.iadd, 1) := by decide +kernel
theorem d_Mo_joinStripe_33 : decode b_Mo_joinStripe 33 = .ok (.istore_n 3, 1) := by decide +kernel
theorem d_Mo_joinStripe_34 : decode b_Mo_joinStripe 34 = .ok (.aload_n 0, 1) := by decide +kernel
theorem d_Mo_joinStripe_35 : decode b_Mo_joinStripe 35 = .ok (.getfield 39, 3) := by decide +kernel
theorem d_Mo_joinStripe_38 : decode b_Mo_joinStripe 38 = .ok (.iconst 1, 1) := by decide +kernel
theorem d_Mo_joinStripe_39 : decode b_Mo_joinStripe 39 = .ok (.baload, 1) := by decide +kernel
theorem d_Mo_joinStripe_40 : decode b_Mo_joinStripe 40 = .ok (.ifCond .eq 26, 3) := by decide +kernel
theorem d_Mo_joinStripe_43 : decode b_Mo_joinStripe 43 = .ok (.aload_n 0, 1) := by decide +kernel
theorem d_Mo_joinStripe_44 : decode b_Mo_joinStripe 44 = .ok (.getfield 36, 3) := by decide +kernel
theorem d_Mo_joinStripe_47 : decode b_Mo_joinStripe 47 = .ok (.sipush 576, 3) := by decide +kernel
theorem d_Mo_joinStripe_50 : decode b_Mo_joinStripe 50 = .ok (.bipush 24, 2) := by decide +kernel
theorem d_Mo_joinStripe_52 : decode b_Mo_joinStripe 52 = .ok (.iload_n 3, 1) := by decide +kernel
theorem d_Mo_joinStripe_53 : decode b_Mo_joinStripe 53 = .ok (.imul, 1) := by decide +kernel
theorem d_Mo_joinStripe_54 : decode b_Mo_joinStripe 54 = .ok (.iadd, 1) := by decide +kernel
theorem d_Mo_joinStripe_55 : decode b_Mo_joinStripe 55 = .ok (.iload_n 2, 1) := by decide +kernel
theorem d_Mo_joinStripe_56 : decode b_Mo_joinStripe 56 = .ok (.iadd, 1) := by decide +kernel
theorem d_Mo_joinStripe_57 : decode b_Mo_joinStripe 57 = .ok (.iaload, 1) := by decide +kernel
theorem d_Mo_joinStripe_58 : decode b_Mo_joinStripe 58 = .ok (.iconst 1, 1) := by decide +kernel
theorem d_Mo_joinStripe_59 : decode b_Mo_joinStripe 59 = .ok (.if_icmp .ne 7, 3) := by decide +kernel
theorem d_Mo_joinStripe_62 : decode b_Mo_joinStripe 62 = .ok (.iconst 2, 1) := by decide +kernel
theorem d_Mo_joinStripe_63 : decode b_Mo_joinStripe 63 = .ok (.goto 4, 3) := by decide +kernel
theorem d_Mo_joinStripe_66 : decode b_Mo_joinStripe 66 = .ok (.iconst 0, 1) := by decide +kernel
theorem d_Mo_joinStripe_67 : decode b_Mo_joinStripe 67 = .ok (.istore 4, 2) := by decide +kernel
theorem d_Mo_joinStripe_69 : decode b_Mo_joinStripe 69 = .ok (.aload_n 0, 1) := by decide +kernel
theorem d_Mo_joinStripe_70 : decode b_Mo_joinStripe 70 = .ok (.getfield 39, 3) := by decide +kernel
theorem d_Mo_joinStripe_73 : decode b_Mo_joinStripe 73 = .ok (.iload 4, 2) := by decide +kernel
theorem d_Mo_joinStripe_75 : decode b_Mo_joinStripe 75 = .ok (.baload, 1) := by decide +kernel
theorem d_Mo_joinStripe_76 : decode b_Mo_joinStripe 76 = .ok (.ifCond .eq 19, 3) := by decide +kernel
theorem d_Mo_joinStripe_79 : decode b_Mo_joinStripe 79 = .ok (.aload_n 0, 1) := by decide +kernel
theorem d_Mo_joinStripe_80 : decode b_Mo_joinStripe 80 = .ok (.getfield 36, 3) := by decide +kernel
theorem d_Mo_joinStripe_83 : decode b_Mo_joinStripe 83 = .ok (.aload_n 0, 1) := by decide +kernel
theorem d_Mo_joinStripe_84 : decode b_Mo_joinStripe 84 = .ok (.iload 4, 2) := by decide +kernel
theorem d_Mo_joinStripe_86 : decode b_Mo_joinStripe 86 = .ok (.iload_n 2, 1) := by decide +kernel
theorem d_Mo_joinStripe_87 : decode b_Mo_joinStripe 87 = .ok (.iload_n 3, 1) := by decide +kernel
theorem d_Mo_joinStripe_88 : decode b_Mo_joinStripe 88 = .ok (.invokevirtual 104, 3) := by decide +kernel
theorem d_Mo_joinStripe_91 : decode b_Mo_joinStripe 91 = .ok (.iaload, 1) := by decide +kernel
theorem d_Mo_joinStripe_92 : decode b_Mo_joinStripe 92 = .ok (.goto 4, 3) := by decide +kernel
theorem d_Mo_joinStripe_95 : decode b_Mo_joinStripe 95 = .ok (.iconst 0, 1) := by decide +kernel
theorem d_Mo_joinStripe_96 : decode b_Mo_joinStripe 96 = .ok (.istore 5, 2) := by decide +kernel
theorem d_Mo_joinStripe_98 : decode b_Mo_joinStripe 98 = .ok (.aload_n 0, 1) := by decide +kernel
theorem d_Mo_joinStripe_99 : decode b_Mo_joinStripe 99 = .ok (.getfield 42, 3) := by decide +kernel
theorem d_Mo_joinStripe_102 : decode b_Mo_joinStripe 102 = .ok (.bipush 24, 2) := by decide +kernel
theorem d_Mo_joinStripe_104 : decode b_Mo_joinStripe 104 = .ok (.iload_n 3, 1) := by decide +kernel
theorem d_Mo_joinStripe_105 : decode b_Mo_joinStripe 105 = .ok (.imul, 1) := by decide +kernel
theorem d_Mo_joinStripe_106 : decode b_Mo_joinStripe 106 = .ok (.iload_n 2, 1) := by decide +kernel
theorem d_Mo_joinStripe_107 : decode b_Mo_joinStripe 107 = .ok (.iadd, 1) := by decide +kernel
theorem d_Mo_joinStripe_108 : decode b_Mo_joinStripe 108 = .ok (.aload_n 0, 1) := by decide +kernel
theorem d_Mo_joinStripe_109 : decode b_Mo_joinStripe 109 = .ok (.getfield 39, 3) := by decide +kernel
theorem d_Mo_joinStripe_112 : decode b_Mo_joinStripe 112 = .ok (.iconst 3, 1) := by decide +kernel
theorem d_Mo_joinStripe_113 : decode b_Mo_joinStripe 113 = .ok (.baload, 1) := by decide +kernel
theorem d_Mo_joinStripe_114 : decode b_Mo_joinStripe 114 = .ok (.ifCond .eq 26, 3) := by decide +kernel
theorem d_Mo_joinStripe_117 : decode b_Mo_joinStripe 117 = .ok (.iload 5, 2) := by decide +kernel
theorem d_Mo_joinStripe_119 : decode b_Mo_joinStripe 119 = .ok (.aload_n 0, 1) := by decide +kernel
theorem d_Mo_joinStripe_120 : decode b_Mo_joinStripe 120 = .ok (.getfield 36, 3) := by decide +kernel
theorem d_Mo_joinStripe_123 : decode b_Mo_joinStripe 123 = .ok (.sipush 1728, 3) := by decide +kernel
theorem d_Mo_joinStripe_126 : decode b_Mo_joinStripe 126 = .ok (.bipush 24, 2) := by decide +kernel
theorem d_Mo_joinStripe_128 : decode b_Mo_joinStripe 128 = .ok (.iload_n 3, 1) := by decide +kernel
theorem d_Mo_joinStripe_129 : decode b_Mo_joinStripe 129 = .ok (.imul, 1) := by decide +kernel
theorem d_Mo_joinStripe_130 : decode b_Mo_joinStripe 130 = .ok (.iadd, 1) := by decide +kernel
theorem d_Mo_joinStripe_131 : decode b_Mo_joinStripe 131 = .ok (.iload_n 2, 1) := by decide +kernel
theorem d_Mo_joinStripe_132 : decode b_Mo_joinStripe 132 = .ok (.iadd, 1) := by decide +kernel
theorem d_Mo_joinStripe_133 : decode b_Mo_joinStripe 133 = .ok (.iaload, 1) := by decide +kernel
theorem d_Mo_joinStripe_134 : decode b_Mo_joinStripe 134 = .ok (.invokestatic 197, 3) := by decide +kernel
theorem d_Mo_joinStripe_137 : decode b_Mo_joinStripe 137 = .ok (.goto 5, 3) := by decide +kernel
theorem d_Mo_joinStripe_140 : decode b_Mo_joinStripe 140 = .ok (.iload 5, 2) := by decide +kernel
theorem d_Mo_joinStripe_142 : decode b_Mo_joinStripe 142 = .ok (.iastore, 1) := by decide +kernel
theorem d_Mo_joinStripe_143 : decode b_Mo_joinStripe 143 = .ok (.iinc 1 1, 3) := by decide +kernel
theorem d_Mo_joinStripe_146 : decode b_Mo_joinStripe 146 = .ok (.goto (-144), 3) := by decide +kernel
theorem d_Mo_joinStripe_149 : decode b_Mo_joinStripe 149 = .ok (.return_, 1) := by decide +kernel
abbrev b_Mo_read : ByteArray := prog_8_method_48_code
def y_Mo_read : MethodName := ⟨"MaskLayersModel", "read", "()I"⟩
theorem d_Mo_read_0 : decode b_Mo_read 0 = .ok (.aload_n 0, 1) := by decide +kernel
theorem d_Mo_read_1 : decode b_Mo_read 1 = .ok (.iconst 0, 1) := by decide +kernel
theorem d_Mo_read_2 : decode b_Mo_read 2 = .ok (.putfield 51, 3) := by decide +kernel
theorem d_Mo_read_5 : decode b_Mo_read 5 = .ok (.aload_n 0, 1) := by decide +kernel
theorem d_Mo_read_6 : decode b_Mo_read 6 = .ok (.iconst 0, 1) := by decide +kernel
theorem d_Mo_read_7 : decode b_Mo_read 7 = .ok (.putfield 172, 3) := by decide +kernel
theorem d_Mo_read_10 : decode b_Mo_read 10 = .ok (.aload_n 0, 1) := by decide +kernel
theorem d_Mo_read_11 : decode b_Mo_read 11 = .ok (.iconst (-1), 1) := by decide +kernel
theorem d_Mo_read_12 : decode b_Mo_read 12 = .ok (.putfield 169, 3) := by decide +kernel
theorem d_Mo_read_15 : decode b_Mo_read 15 = .ok (.aload_n 0, 1) := by decide +kernel
theorem d_Mo_read_16 : decode b_Mo_read 16 = .ok (.iconst 0, 1) := by decide +kernel
theorem d_Mo_read_17 : decode b_Mo_read 17 = .ok (.putfield 200, 3) := by decide +kernel
theorem d_Mo_read_20 : decode b_Mo_read 20 = .ok (.aload_n 0, 1) := by decide +kernel
theorem d_Mo_read_21 : decode b_Mo_read 21 = .ok (.iconst 0, 1) := by decide +kernel
theorem d_Mo_read_22 : decode b_Mo_read 22 = .ok (.putfield 203, 3) := by decide +kernel
theorem d_Mo_read_25 : decode b_Mo_read 25 = .ok (.aload_n 0, 1) := by decide +kernel
theorem d_Mo_read_26 : decode b_Mo_read 26 = .ok (.bipush 77, 2) := by decide +kernel
theorem d_Mo_read_28 : decode b_Mo_read 28 = .ok (.bipush 77, 2) := by decide +kernel
theorem d_Mo_read_30 : decode b_Mo_read 30 = .ok (.invokevirtual 182, 3) := by decide +kernel
theorem d_Mo_read_33 : decode b_Mo_read 33 = .ok (.pop, 1) := by decide +kernel
theorem d_Mo_read_34 : decode b_Mo_read 34 = .ok (.aload_n 0, 1) := by decide +kernel
theorem d_Mo_read_35 : decode b_Mo_read 35 = .ok (.bipush 76, 2) := by decide +kernel
theorem d_Mo_read_37 : decode b_Mo_read 37 = .ok (.bipush 76, 2) := by decide +kernel
theorem d_Mo_read_39 : decode b_Mo_read 39 = .ok (.invokevirtual 182, 3) := by decide +kernel
theorem d_Mo_read_42 : decode b_Mo_read 42 = .ok (.pop, 1) := by decide +kernel
theorem d_Mo_read_43 : decode b_Mo_read 43 = .ok (.aload_n 0, 1) := by decide +kernel
theorem d_Mo_read_44 : decode b_Mo_read 44 = .ok (.iconst 1, 1) := by decide +kernel
theorem d_Mo_read_45 : decode b_Mo_read 45 = .ok (.bipush 24, 2) := by decide +kernel
theorem d_Mo_read_47 : decode b_Mo_read 47 = .ok (.invokevirtual 182, 3) := by decide +kernel
theorem d_Mo_read_50 : decode b_Mo_read 50 = .ok (.istore_n 1, 1) := by decide +kernel
theorem d_Mo_read_51 : decode b_Mo_read 51 = .ok (.aload_n 0, 1) := by decide +kernel
theorem d_Mo_read_52 : decode b_Mo_read 52 = .ok (.iconst 1, 1) := by decide +kernel
theorem d_Mo_read_53 : decode b_Mo_read 53 = .ok (.bipush 24, 2) := by decide +kernel
theorem d_Mo_read_55 : decode b_Mo_read 55 = .ok (.invokevirtual 182, 3) := by decide +kernel
theorem d_Mo_read_58 : decode b_Mo_read 58 = .ok (.istore_n 2, 1) := by decide +kernel
theorem d_Mo_read_59 : decode b_Mo_read 59 = .ok (.aload_n 0, 1) := by decide +kernel
theorem d_Mo_read_60 : decode b_Mo_read 60 = .ok (.iconst 1, 1) := by decide +kernel
theorem d_Mo_read_61 : decode b_Mo_read 61 = .ok (.bipush 24, 2) := by decide +kernel
theorem d_Mo_read_63 : decode b_Mo_read 63 = .ok (.invokevirtual 182, 3) := by decide +kernel
theorem d_Mo_read_66 : decode b_Mo_read 66 = .ok (.istore_n 3, 1) := by decide +kernel
theorem d_Mo_read_67 : decode b_Mo_read 67 = .ok (.aload_n 0, 1) := by decide +kernel
theorem d_Mo_read_68 : decode b_Mo_read 68 = .ok (.aload_n 0, 1) := by decide +kernel
theorem d_Mo_read_69 : decode b_Mo_read 69 = .ok (.iconst 1, 1) := by decide +kernel
theorem d_Mo_read_70 : decode b_Mo_read 70 = .ok (.bipush 8, 2) := by decide +kernel
theorem d_Mo_read_72 : decode b_Mo_read 72 = .ok (.invokevirtual 182, 3) := by decide +kernel
theorem d_Mo_read_75 : decode b_Mo_read 75 = .ok (.putfield 78, 3) := by decide +kernel
theorem d_Mo_read_78 : decode b_Mo_read 78 = .ok (.aload_n 0, 1) := by decide +kernel
theorem d_Mo_read_79 : decode b_Mo_read 79 = .ok (.aload_n 0, 1) := by decide +kernel
theorem d_Mo_read_80 : decode b_Mo_read 80 = .ok (.iconst 1, 1) := by decide +kernel
theorem d_Mo_read_81 : decode b_Mo_read 81 = .ok (.bipush 8, 2) := by decide +kernel
theorem d_Mo_read_83 : decode b_Mo_read 83 = .ok (.invokevirtual 182, 3) := by decide +kernel
theorem d_Mo_read_86 : decode b_Mo_read 86 = .ok (.putfield 75, 3) := by decide +kernel
theorem d_Mo_read_89 : decode b_Mo_read 89 = .ok (.iconst 0, 1) := by decide +kernel
theorem d_Mo_read_90 : decode b_Mo_read 90 = .ok (.istore 4, 2) := by decide +kernel
theorem d_Mo_read_92 : decode b_Mo_read 92 = .ok (.iconst 0, 1) := by decide +kernel
theorem d_Mo_read_93 : decode b_Mo_read 93 = .ok (.istore 5, 2) := by decide +kernel
theorem d_Mo_read_95 : decode b_Mo_read 95 = .ok (.aload_n 0, 1) := by decide +kernel
theorem d_Mo_read_96 : decode b_Mo_read 96 = .ok (.getfield 169, 3) := by decide +kernel
theorem d_Mo_read_99 : decode b_Mo_read 99 = .ok (.ifCond .ge 48, 3) := by decide +kernel
theorem d_Mo_read_102 : decode b_Mo_read 102 = .ok (.iload 5, 2) := by decide +kernel
theorem d_Mo_read_104 : decode b_Mo_read 104 = .ok (.iload_n 2, 1) := by decide +kernel
theorem d_Mo_read_105 : decode b_Mo_read 105 = .ok (.iload_n 3, 1) := by decide +kernel
theorem d_Mo_read_106 : decode b_Mo_read 106 = .ok (.invokestatic 63, 3) := by decide +kernel
theorem d_Mo_read_109 : decode b_Mo_read 109 = .ok (.if_icmp .ge 38, 3) := by decide +kernel
theorem d_Mo_read_112 : decode b_Mo_read 112 = .ok (.aload_n 0, 1) := by decide +kernel
theorem d_Mo_read_113 : decode b_Mo_read 113 = .ok (.iload_n 1, 1) := by decide +kernel
theorem d_Mo_read_114 : decode b_Mo_read 114 = .ok (.iload_n 2, 1) := by decide +kernel
theorem d_Mo_read_115 : decode b_Mo_read 115 = .ok (.iload_n 3, 1) := by decide +kernel
theorem d_Mo_read_116 : decode b_Mo_read 116 = .ok (.iload 5, 2) := by decide +kernel
theorem d_Mo_read_118 : decode b_Mo_read 118 = .ok (.invokevirtual 110, 3) := by decide +kernel
theorem d_Mo_read_121 : decode b_Mo_read 121 = .ok (.iload 4, 2) := by decide +kernel
theorem d_Mo_read_123 : decode b_Mo_read 123 = .ok (.aload_n 0, 1) := by decide +kernel
theorem d_Mo_read_124 : decode b_Mo_read 124 = .ok (.invokevirtual 206, 3) := by decide +kernel
theorem d_Mo_read_127 : decode b_Mo_read 127 = .ok (.iadd, 1) := by decide +kernel
theorem d_Mo_read_128 : decode b_Mo_read 128 = .ok (.istore 4, 2) := by decide +kernel
theorem d_Mo_read_130 : decode b_Mo_read 130 = .ok (.aload_n 0, 1) := by decide +kernel
theorem d_Mo_read_131 : decode b_Mo_read 131 = .ok (.getfield 169, 3) := by decide +kernel
theorem d_Mo_read_134 : decode b_Mo_read 134 = .ok (.ifCond .ge 7, 3) := by decide +kernel
theorem d_Mo_read_137 : decode b_Mo_read 137 = .ok (.aload_n 0, 1) := by decide +kernel
theorem d_Mo_read_138 : decode b_Mo_read 138 = .ok (.invokevirtual 209, 3) := by decide +kernel
theorem d_Mo_read_141 : decode b_Mo_read 141 = .ok (.iinc 5 1, 3) := by decide +kernel
theorem d_Mo_read_144 : decode b_Mo_read 144 = .ok (.goto (-49), 3) := by decide +kernel
theorem d_Mo_read_147 : decode b_Mo_read 147 = .ok (.aload_n 0, 1) := by decide +kernel
theorem d_Mo_read_148 : decode b_Mo_read 148 = .ok (.getfield 169, 3) := by decide +kernel
theorem d_Mo_read_151 : decode b_Mo_read 151 = .ok (.ifCond .ge 22, 3) := by decide +kernel
theorem d_Mo_read_154 : decode b_Mo_read 154 = .ok (.aload_n 0, 1) := by decide +kernel
theorem d_Mo_read_155 : decode b_Mo_read 155 = .ok (.getfield 172, 3) := by decide +kernel
theorem d_Mo_read_158 : decode b_Mo_read 158 = .ok (.aload_n 0, 1) := by decide +kernel
theorem d_Mo_read_159 : decode b_Mo_read 159 = .ok (.getfield 166, 3) := by decide +kernel
theorem d_Mo_read_162 : decode b_Mo_read 162 = .ok (.if_icmp .ge 11, 3) := by decide +kernel
theorem d_Mo_read_165 : decode b_Mo_read 165 = .ok (.aload_n 0, 1) := by decide +kernel
theorem d_Mo_read_166 : decode b_Mo_read 166 = .ok (.aload_n 0, 1) := by decide +kernel
theorem d_Mo_read_167 : decode b_Mo_read 167 = .ok (.getfield 172, 3) := by decide +kernel
theorem d_Mo_read_170 : decode b_Mo_read 170 = .ok (.invokevirtual 175, 3) := by decide +kernel
theorem d_Mo_read_173 : decode b_Mo_read 173 = .ok (.aload_n 0, 1) := by decide +kernel
theorem d_Mo_read_174 : decode b_Mo_read 174 = .ok (.getfield 169, 3) := by decide +kernel
