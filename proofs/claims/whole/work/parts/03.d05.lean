theorem d_Writer_writeLayer_32 : decode b_Writer_writeLayer 32 = .ok (.iload_n 3, 1) := by decide +kernel
theorem d_Writer_writeLayer_33 : decode b_Writer_writeLayer 33 = .ok (.iload 4, 2) := by decide +kernel
theorem d_Writer_writeLayer_35 : decode b_Writer_writeLayer 35 = .ok (.invokevirtual 75, 3) := by decide +kernel
theorem d_Writer_writeLayer_38 : decode b_Writer_writeLayer 38 = .ok (.iload_n 2, 1) := by decide +kernel
theorem d_Writer_writeLayer_39 : decode b_Writer_writeLayer 39 = .ok (.iconst 1, 1) := by decide +kernel
theorem d_Writer_writeLayer_40 : decode b_Writer_writeLayer 40 = .ok (.if_icmp .ne 7, 3) := by decide +kernel
theorem d_Writer_writeLayer_43 : decode b_Writer_writeLayer 43 = .ok (.iconst 2, 1) := by decide +kernel
theorem d_Writer_writeLayer_44 : decode b_Writer_writeLayer 44 = .ok (.goto 4, 3) := by decide +kernel
theorem d_Writer_writeLayer_47 : decode b_Writer_writeLayer 47 = .ok (.iconst 4, 1) := by decide +kernel
theorem d_Writer_writeLayer_48 : decode b_Writer_writeLayer 48 = .ok (.imul, 1) := by decide +kernel
theorem d_Writer_writeLayer_49 : decode b_Writer_writeLayer 49 = .ok (.istore 6, 2) := by decide +kernel
theorem d_Writer_writeLayer_51 : decode b_Writer_writeLayer 51 = .ok (.aload_n 0, 1) := by decide +kernel
theorem d_Writer_writeLayer_52 : decode b_Writer_writeLayer 52 = .ok (.getfield 15, 3) := by decide +kernel
theorem d_Writer_writeLayer_55 : decode b_Writer_writeLayer 55 = .ok (.sipush 160, 3) := by decide +kernel
theorem d_Writer_writeLayer_58 : decode b_Writer_writeLayer 58 = .ok (.iload_n 2, 1) := by decide +kernel
theorem d_Writer_writeLayer_59 : decode b_Writer_writeLayer 59 = .ok (.iadd, 1) := by decide +kernel
theorem d_Writer_writeLayer_60 : decode b_Writer_writeLayer 60 = .ok (.invokevirtual 41, 3) := by decide +kernel
theorem d_Writer_writeLayer_63 : decode b_Writer_writeLayer 63 = .ok (.aload_n 0, 1) := by decide +kernel
theorem d_Writer_writeLayer_64 : decode b_Writer_writeLayer 64 = .ok (.getfield 15, 3) := by decide +kernel
theorem d_Writer_writeLayer_67 : decode b_Writer_writeLayer 67 = .ok (.iload 6, 2) := by decide +kernel
theorem d_Writer_writeLayer_69 : decode b_Writer_writeLayer 69 = .ok (.iload 5, 2) := by decide +kernel
theorem d_Writer_writeLayer_71 : decode b_Writer_writeLayer 71 = .ok (.if_icmp .ge 7, 3) := by decide +kernel
theorem d_Writer_writeLayer_74 : decode b_Writer_writeLayer 74 = .ok (.iconst 1, 1) := by decide +kernel
theorem d_Writer_writeLayer_75 : decode b_Writer_writeLayer 75 = .ok (.goto 4, 3) := by decide +kernel
theorem d_Writer_writeLayer_78 : decode b_Writer_writeLayer 78 = .ok (.iconst 0, 1) := by decide +kernel
theorem d_Writer_writeLayer_79 : decode b_Writer_writeLayer 79 = .ok (.invokevirtual 41, 3) := by decide +kernel
theorem d_Writer_writeLayer_82 : decode b_Writer_writeLayer 82 = .ok (.aload_n 0, 1) := by decide +kernel
theorem d_Writer_writeLayer_83 : decode b_Writer_writeLayer 83 = .ok (.getfield 15, 3) := by decide +kernel
theorem d_Writer_writeLayer_86 : decode b_Writer_writeLayer 86 = .ok (.iload 6, 2) := by decide +kernel
theorem d_Writer_writeLayer_88 : decode b_Writer_writeLayer 88 = .ok (.iload 5, 2) := by decide +kernel
theorem d_Writer_writeLayer_90 : decode b_Writer_writeLayer 90 = .ok (.invokestatic 79, 3) := by decide +kernel
theorem d_Writer_writeLayer_93 : decode b_Writer_writeLayer 93 = .ok (.sipush 255, 3) := by decide +kernel
theorem d_Writer_writeLayer_96 : decode b_Writer_writeLayer 96 = .ok (.iand, 1) := by decide +kernel
theorem d_Writer_writeLayer_97 : decode b_Writer_writeLayer 97 = .ok (.invokevirtual 41, 3) := by decide +kernel
theorem d_Writer_writeLayer_100 : decode b_Writer_writeLayer 100 = .ok (.aload_n 0, 1) := by decide +kernel
theorem d_Writer_writeLayer_101 : decode b_Writer_writeLayer 101 = .ok (.getfield 15, 3) := by decide +kernel
theorem d_Writer_writeLayer_104 : decode b_Writer_writeLayer 104 = .ok (.iload 6, 2) := by decide +kernel
theorem d_Writer_writeLayer_106 : decode b_Writer_writeLayer 106 = .ok (.iload 5, 2) := by decide +kernel
theorem d_Writer_writeLayer_108 : decode b_Writer_writeLayer 108 = .ok (.invokestatic 79, 3) := by decide +kernel
theorem d_Writer_writeLayer_111 : decode b_Writer_writeLayer 111 = .ok (.bipush 8, 2) := by decide +kernel
theorem d_Writer_writeLayer_113 : decode b_Writer_writeLayer 113 = .ok (.ishr, 1) := by decide +kernel
theorem d_Writer_writeLayer_114 : decode b_Writer_writeLayer 114 = .ok (.invokevirtual 41, 3) := by decide +kernel
theorem d_Writer_writeLayer_117 : decode b_Writer_writeLayer 117 = .ok (.iload 6, 2) := by decide +kernel
theorem d_Writer_writeLayer_119 : decode b_Writer_writeLayer 119 = .ok (.iload 5, 2) := by decide +kernel
theorem d_Writer_writeLayer_121 : decode b_Writer_writeLayer 121 = .ok (.if_icmp .ge 14, 3) := by decide +kernel
theorem d_Writer_writeLayer_124 : decode b_Writer_writeLayer 124 = .ok (.aload_n 0, 1) := by decide +kernel
theorem d_Writer_writeLayer_125 : decode b_Writer_writeLayer 125 = .ok (.iload_n 2, 1) := by decide +kernel
theorem d_Writer_writeLayer_126 : decode b_Writer_writeLayer 126 = .ok (.iload_n 3, 1) := by decide +kernel
theorem d_Writer_writeLayer_127 : decode b_Writer_writeLayer 127 = .ok (.iload 4, 2) := by decide +kernel
theorem d_Writer_writeLayer_129 : decode b_Writer_writeLayer 129 = .ok (.invokevirtual 84, 3) := by decide +kernel
theorem d_Writer_writeLayer_132 : decode b_Writer_writeLayer 132 = .ok (.goto 26, 3) := by decide +kernel
theorem d_Writer_writeLayer_135 : decode b_Writer_writeLayer 135 = .ok (.iload_n 2, 1) := by decide +kernel
theorem d_Writer_writeLayer_136 : decode b_Writer_writeLayer 136 = .ok (.iconst 1, 1) := by decide +kernel
theorem d_Writer_writeLayer_137 : decode b_Writer_writeLayer 137 = .ok (.if_icmp .ne 13, 3) := by decide +kernel
theorem d_Writer_writeLayer_140 : decode b_Writer_writeLayer 140 = .ok (.aload_n 0, 1) := by decide +kernel
theorem d_Writer_writeLayer_141 : decode b_Writer_writeLayer 141 = .ok (.iload_n 3, 1) := by decide +kernel
theorem d_Writer_writeLayer_142 : decode b_Writer_writeLayer 142 = .ok (.iload 4, 2) := by decide +kernel
theorem d_Writer_writeLayer_144 : decode b_Writer_writeLayer 144 = .ok (.invokevirtual 88, 3) := by decide +kernel
theorem d_Writer_writeLayer_147 : decode b_Writer_writeLayer 147 = .ok (.goto 11, 3) := by decide +kernel
theorem d_Writer_writeLayer_150 : decode b_Writer_writeLayer 150 = .ok (.aload_n 0, 1) := by decide +kernel
theorem d_Writer_writeLayer_151 : decode b_Writer_writeLayer 151 = .ok (.iload_n 2, 1) := by decide +kernel
theorem d_Writer_writeLayer_152 : decode b_Writer_writeLayer 152 = .ok (.iload_n 3, 1) := by decide +kernel
theorem d_Writer_writeLayer_153 : decode b_Writer_writeLayer 153 = .ok (.iload 4, 2) := by decide +kernel
theorem d_Writer_writeLayer_155 : decode b_Writer_writeLayer 155 = .ok (.invokevirtual 91, 3) := by decide +kernel
theorem d_Writer_writeLayer_158 : decode b_Writer_writeLayer 158 = .ok (.return_, 1) := by decide +kernel
abbrev b_Writer_writeAll : ByteArray := prog_6_method_2_code
def y_Writer_writeAll : MethodName := ⟨"MaskLayers$Writer", "writeAll", "()I"⟩
theorem d_Writer_writeAll_0 : decode b_Writer_writeAll 0 = .ok (.aload_n 0, 1) := by decide +kernel
theorem d_Writer_writeAll_1 : decode b_Writer_writeAll 1 = .ok (.getfield 15, 3) := by decide +kernel
theorem d_Writer_writeAll_4 : decode b_Writer_writeAll 4 = .ok (.invokevirtual 19, 3) := by decide +kernel
theorem d_Writer_writeAll_7 : decode b_Writer_writeAll 7 = .ok (.aload_n 0, 1) := by decide +kernel
theorem d_Writer_writeAll_8 : decode b_Writer_writeAll 8 = .ok (.invokevirtual 24, 3) := by decide +kernel
theorem d_Writer_writeAll_11 : decode b_Writer_writeAll 11 = .ok (.iconst 0, 1) := by decide +kernel
theorem d_Writer_writeAll_12 : decode b_Writer_writeAll 12 = .ok (.istore_n 1, 1) := by decide +kernel
theorem d_Writer_writeAll_13 : decode b_Writer_writeAll 13 = .ok (.iload_n 1, 1) := by decide +kernel
theorem d_Writer_writeAll_14 : decode b_Writer_writeAll 14 = .ok (.aload_n 0, 1) := by decide +kernel
theorem d_Writer_writeAll_15 : decode b_Writer_writeAll 15 = .ok (.getfield 9, 3) := by decide +kernel
theorem d_Writer_writeAll_18 : decode b_Writer_writeAll 18 = .ok (.invokevirtual 27, 3) := by decide +kernel
theorem d_Writer_writeAll_21 : decode b_Writer_writeAll 21 = .ok (.if_icmp .ge 50, 3) := by decide +kernel
theorem d_Writer_writeAll_24 : decode b_Writer_writeAll 24 = .ok (.iconst 0, 1) := by decide +kernel
theorem d_Writer_writeAll_25 : decode b_Writer_writeAll 25 = .ok (.istore_n 2, 1) := by decide +kernel
theorem d_Writer_writeAll_26 : decode b_Writer_writeAll 26 = .ok (.iload_n 2, 1) := by decide +kernel
theorem d_Writer_writeAll_27 : decode b_Writer_writeAll 27 = .ok (.iconst 3, 1) := by decide +kernel
theorem d_Writer_writeAll_28 : decode b_Writer_writeAll 28 = .ok (.if_icmp .gt 27, 3) := by decide +kernel
theorem d_Writer_writeAll_31 : decode b_Writer_writeAll 31 = .ok (.aload_n 0, 1) := by decide +kernel
theorem d_Writer_writeAll_32 : decode b_Writer_writeAll 32 = .ok (.getfield 9, 3) := by decide +kernel
theorem d_Writer_writeAll_35 : decode b_Writer_writeAll 35 = .ok (.iload_n 1, 1) := by decide +kernel
theorem d_Writer_writeAll_36 : decode b_Writer_writeAll 36 = .ok (.iload_n 2, 1) := by decide +kernel
theorem d_Writer_writeAll_37 : decode b_Writer_writeAll 37 = .ok (.invokevirtual 33, 3) := by decide +kernel
theorem d_Writer_writeAll_40 : decode b_Writer_writeAll 40 = .ok (.ifCond .eq 9, 3) := by decide +kernel
theorem d_Writer_writeAll_43 : decode b_Writer_writeAll 43 = .ok (.aload_n 0, 1) := by decide +kernel
theorem d_Writer_writeAll_44 : decode b_Writer_writeAll 44 = .ok (.iload_n 1, 1) := by decide +kernel
theorem d_Writer_writeAll_45 : decode b_Writer_writeAll 45 = .ok (.iload_n 2, 1) := by decide +kernel
theorem d_Writer_writeAll_46 : decode b_Writer_writeAll 46 = .ok (.invokevirtual 37, 3) := by decide +kernel
theorem d_Writer_writeAll_49 : decode b_Writer_writeAll 49 = .ok (.iinc 2 1, 3) := by decide +kernel
theorem d_Writer_writeAll_52 : decode b_Writer_writeAll 52 = .ok (.goto (-26), 3) := by decide +kernel
theorem d_Writer_writeAll_55 : decode b_Writer_writeAll 55 = .ok (.aload_n 0, 1) := by decide +kernel
theorem d_Writer_writeAll_56 : decode b_Writer_writeAll 56 = .ok (.getfield 15, 3) := by decide +kernel
theorem d_Writer_writeAll_59 : decode b_Writer_writeAll 59 = .ok (.sipush 175, 3) := by decide +kernel
theorem d_Writer_writeAll_62 : decode b_Writer_writeAll 62 = .ok (.invokevirtual 41, 3) := by decide +kernel
theorem d_Writer_writeAll_65 : decode b_Writer_writeAll 65 = .ok (.iinc 1 1, 3) := by decide +kernel
theorem d_Writer_writeAll_68 : decode b_Writer_writeAll 68 = .ok (.goto (-55), 3) := by decide +kernel
theorem d_Writer_writeAll_71 : decode b_Writer_writeAll 71 = .ok (.aload_n 0, 1) := by decide +kernel
theorem d_Writer_writeAll_72 : decode b_Writer_writeAll 72 = .ok (.getfield 15, 3) := by decide +kernel
theorem d_Writer_writeAll_75 : decode b_Writer_writeAll 75 = .ok (.getfield 45, 3) := by decide +kernel
theorem d_Writer_writeAll_78 : decode b_Writer_writeAll 78 = .ok (.ireturn, 1) := by decide +kernel
abbrev b_Mo_stripesOf : ByteArray := prog_8_method_7_code
def y_Mo_stripesOf : MethodName := ⟨"MaskLayersModel", "stripesOf", "(II)I"⟩
theorem d_Mo_stripesOf_0 : decode b_Mo_stripesOf 0 = .ok (.iload_n 0, 1) := by decide +kernel
theorem d_Mo_stripesOf_1 : decode b_Mo_stripesOf 1 = .ok (.iload_n 1, 1) := by decide +kernel
theorem d_Mo_stripesOf_2 : decode b_Mo_stripesOf 2 = .ok (.iadd, 1) := by decide +kernel
theorem d_Mo_stripesOf_3 : decode b_Mo_stripesOf 3 = .ok (.iconst 1, 1) := by decide +kernel
theorem d_Mo_stripesOf_4 : decode b_Mo_stripesOf 4 = .ok (.isub, 1) := by decide +kernel
theorem d_Mo_stripesOf_5 : decode b_Mo_stripesOf 5 = .ok (.iload_n 1, 1) := by decide +kernel
theorem d_Mo_stripesOf_6 : decode b_Mo_stripesOf 6 = .ok (.idiv, 1) := by decide +kernel
theorem d_Mo_stripesOf_7 : decode b_Mo_stripesOf 7 = .ok (.ireturn, 1) := by decide +kernel
abbrev b_Mo_part : ByteArray := prog_8_method_15_code
def y_Mo_part : MethodName := ⟨"MaskLayersModel", "part", "(II)I"⟩
theorem d_Mo_part_0 : decode b_Mo_part 0 = .ok (.iload_n 0, 1) := by decide +kernel
theorem d_Mo_part_1 : decode b_Mo_part 1 = .ok (.bipush 16, 2) := by decide +kernel
theorem d_Mo_part_3 : decode b_Mo_part 3 = .ok (.bipush 8, 2) := by decide +kernel
theorem d_Mo_part_5 : decode b_Mo_part 5 = .ok (.iload_n 1, 1) := by decide +kernel
theorem d_Mo_part_6 : decode b_Mo_part 6 = .ok (.imul, 1) := by decide +kernel
theorem d_Mo_part_7 : decode b_Mo_part 7 = .ok (.isub, 1) := by decide +kernel
theorem d_Mo_part_8 : decode b_Mo_part 8 = .ok (.ishr, 1) := by decide +kernel
theorem d_Mo_part_9 : decode b_Mo_part 9 = .ok (.sipush 255, 3) := by decide +kernel
theorem d_Mo_part_12 : decode b_Mo_part 12 = .ok (.iand, 1) := by decide +kernel
theorem d_Mo_part_13 : decode b_Mo_part 13 = .ok (.ireturn, 1) := by decide +kernel
abbrev b_Mo_more : ByteArray := prog_8_method_20_code
def y_Mo_more : MethodName := ⟨"MaskLayersModel", "more", "(II)I"⟩
theorem d_Mo_more_0 : decode b_Mo_more 0 = .ok (.iconst 0, 1) := by decide +kernel
theorem d_Mo_more_1 : decode b_Mo_more 1 = .ok (.istore_n 2, 1) := by decide +kernel
theorem d_Mo_more_2 : decode b_Mo_more 2 = .ok (.iconst 0, 1) := by decide +kernel
theorem d_Mo_more_3 : decode b_Mo_more 3 = .ok (.istore_n 3, 1) := by decide +kernel
theorem d_Mo_more_4 : decode b_Mo_more 4 = .ok (.iload_n 3, 1) := by decide +kernel
theorem d_Mo_more_5 : decode b_Mo_more 5 = .ok (.iconst 3, 1) := by decide +kernel
theorem d_Mo_more_6 : decode b_Mo_more 6 = .ok (.if_icmp .ge 30, 3) := by decide +kernel
theorem d_Mo_more_9 : decode b_Mo_more 9 = .ok (.iload_n 2, 1) := by decide +kernel
theorem d_Mo_more_10 : decode b_Mo_more 10 = .ok (.bipush 8, 2) := by decide +kernel
theorem d_Mo_more_12 : decode b_Mo_more 12 = .ok (.ishl, 1) := by decide +kernel
theorem d_Mo_more_13 : decode b_Mo_more 13 = .ok (.iload_n 0, 1) := by decide +kernel
theorem d_Mo_more_14 : decode b_Mo_more 14 = .ok (.iload_n 3, 1) := by decide +kernel
theorem d_Mo_more_15 : decode b_Mo_more 15 = .ok (.invokestatic 91, 3) := by decide +kernel
theorem d_Mo_more_18 : decode b_Mo_more 18 = .ok (.iload_n 1, 1) := by decide +kernel
theorem d_Mo_more_19 : decode b_Mo_more 19 = .ok (.iload_n 3, 1) := by decide +kernel
theorem d_Mo_more_20 : decode b_Mo_more 20 = .ok (.invokestatic 91, 3) := by decide +kernel
theorem d_Mo_more_23 : decode b_Mo_more 23 = .ok (.isub, 1) := by decide +kernel
theorem d_Mo_more_24 : decode b_Mo_more 24 = .ok (.sipush 255, 3) := by decide +kernel
theorem d_Mo_more_27 : decode b_Mo_more 27 = .ok (.iand, 1) := by decide +kernel
theorem d_Mo_more_28 : decode b_Mo_more 28 = .ok (.ior, 1) := by decide +kernel
theorem d_Mo_more_29 : decode b_Mo_more 29 = .ok (.istore_n 2, 1) := by decide +kernel
theorem d_Mo_more_30 : decode b_Mo_more 30 = .ok (.iinc 3 1, 3) := by decide +kernel
theorem d_Mo_more_33 : decode b_Mo_more 33 = .ok (.goto (-29), 3) := by decide +kernel
theorem d_Mo_more_36 : decode b_Mo_more 36 = .ok (.iload_n 2, 1) := by decide +kernel
theorem d_Mo_more_37 : decode b_Mo_more 37 = .ok (.ireturn, 1) := by decide +kernel
abbrev b_Mo_together : ByteArray := prog_8_method_21_code
def y_Mo_together : MethodName := ⟨"MaskLayersModel", "together", "(II)I"⟩
theorem d_Mo_together_0 : decode b_Mo_together 0 = .ok (.iconst 0, 1) := by decide +kernel
theorem d_Mo_together_1 : decode b_Mo_together 1 = .ok (.istore_n 2, 1) := by decide +kernel
theorem d_Mo_together_2 : decode b_Mo_together 2 = .ok (.iconst 0, 1) := by decide +kernel
theorem d_Mo_together_3 : decode b_Mo_together 3 = .ok (.istore_n 3, 1) := by decide +kernel
theorem d_Mo_together_4 : decode b_Mo_together 4 = .ok (.iload_n 3, 1) := by decide +kernel
theorem d_Mo_together_5 : decode b_Mo_together 5 = .ok (.iconst 3, 1) := by decide +kernel
theorem d_Mo_together_6 : decode b_Mo_together 6 = .ok (.if_icmp .ge 30, 3) := by decide +kernel
theorem d_Mo_together_9 : decode b_Mo_together 9 = .ok (.iload_n 2, 1) := by decide +kernel
theorem d_Mo_together_10 : decode b_Mo_together 10 = .ok (.bipush 8, 2) := by decide +kernel
theorem d_Mo_together_12 : decode b_Mo_together 12 = .ok (.ishl, 1) := by decide +kernel
theorem d_Mo_together_13 : decode b_Mo_together 13 = .ok (.iload_n 0, 1) := by decide +kernel
theorem d_Mo_together_14 : decode b_Mo_together 14 = .ok (.iload_n 3, 1) := by decide +kernel
theorem d_Mo_together_15 : decode b_Mo_together 15 = .ok (.invokestatic 91, 3) := by decide +kernel
theorem d_Mo_together_18 : decode b_Mo_together 18 = .ok (.iload_n 1, 1) := by decide +kernel
theorem d_Mo_together_19 : decode b_Mo_together 19 = .ok (.iload_n 3, 1) := by decide +kernel
theorem d_Mo_together_20 : decode b_Mo_together 20 = .ok (.invokestatic 91, 3) := by decide +kernel
theorem d_Mo_together_23 : decode b_Mo_together 23 = .ok (.iadd, 1) := by decide +kernel
theorem d_Mo_together_24 : decode b_Mo_together 24 = .ok (.sipush 255, 3) := by decide +kernel
theorem d_Mo_together_27 : decode b_Mo_together 27 = .ok (.iand, 1) := by decide +kernel
theorem d_Mo_together_28 : decode b_Mo_together 28 = .ok (.ior, 1) := by decide +kernel
theorem d_Mo_together_29 : decode b_Mo_together 29 = .ok (.istore_n 2, 1) := by decide +kernel
theorem d_Mo_together_30 : decode b_Mo_together 30 = .ok (.iinc 3 1, 3) := by decide +kernel
theorem d_Mo_together_33 : decode b_Mo_together 33 = .ok (.goto (-29), 3) := by decide +kernel
theorem d_Mo_together_36 : decode b_Mo_together 36 = .ok (.iload_n 2, 1) := by decide +kernel
theorem d_Mo_together_37 : decode b_Mo_together 37 = .ok (.ireturn, 1) := by decide +kernel
abbrev b_Mo_thrown : ByteArray := prog_8_method_2_code
def y_Mo_thrown : MethodName := ⟨"MaskLayersModel", "thrown", "()I"⟩
theorem d_Mo_thrown_0 : decode b_Mo_thrown 0 = .ok (.aload_n 0, 1) := by decide +kernel
theorem d_Mo_thrown_1 : decode b_Mo_thrown 1 = .ok (.getfield 51, 3) := by decide +kernel
theorem d_Mo_thrown_4 : decode b_Mo_thrown 4 = .ok (.ireturn, 1) := by decide +kernel
abbrev b_Mo_isSample : ByteArray := prog_8_method_3_code
def y_Mo_isSample : MethodName := ⟨"MaskLayersModel", "isSample", "(II)Z"⟩
theorem d_Mo_isSample_0 : decode b_Mo_isSample 0 = .ok (.iload_n 1, 1) := by decide +kernel
theorem d_Mo_isSample_1 : decode b_Mo_isSample 1 = .ok (.ifCond .lt 27, 3) := by decide +kernel
theorem d_Mo_isSample_4 : decode b_Mo_isSample 4 = .ok (.iload_n 1, 1) := by decide +kernel
theorem d_Mo_isSample_5 : decode b_Mo_isSample 5 = .ok (.aload_n 0, 1) := by decide +kernel
theorem d_Mo_isSample_6 : decode b_Mo_isSample 6 = .ok (.getfield 45, 3) := by decide +kernel
theorem d_Mo_isSample_9 : decode b_Mo_isSample 9 = .ok (.if_icmp .ge 19, 3) := by decide +kernel
theorem d_Mo_isSample_12 : decode b_Mo_isSample 12 = .ok (.iload_n 2, 1) := by decide +kernel
theorem d_Mo_isSample_13 : decode b_Mo_isSample 13 = .ok (.ifCond .lt 15, 3) := by decide +kernel
theorem d_Mo_isSample_16 : decode b_Mo_isSample 16 = .ok (.iload_n 2, 1) := by decide +kernel
theorem d_Mo_isSample_17 : decode b_Mo_isSample 17 = .ok (.aload_n 0, 1) := by decide +kernel
theorem d_Mo_isSample_18 : decode b_Mo_isSample 18 = .ok (.getfield 48, 3) := by decide +kernel
theorem d_Mo_isSample_21 : decode b_Mo_isSample 21 = .ok (.if_icmp .ge 7, 3) := by decide +kernel
theorem d_Mo_isSample_24 : decode b_Mo_isSample 24 = .ok (.iconst 1, 1) := by decide +kernel
theorem d_Mo_isSample_25 : decode b_Mo_isSample 25 = .ok (.goto 4, 3) := by decide +kernel
theorem d_Mo_isSample_28 : decode b_Mo_isSample 28 = .ok (.iconst 0, 1) := by decide +kernel
theorem d_Mo_isSample_29 : decode b_Mo_isSample 29 = .ok (.ireturn, 1) := by decide +kernel
abbrev b_Mo_end : ByteArray := prog_8_method_4_code
def y_Mo_end : MethodName := ⟨"MaskLayersModel", "end", "(II)I"⟩
theorem d_Mo_end_0 : decode b_Mo_end 0 = .ok (.iload_n 2, 1) := by decide +kernel
theorem d_Mo_end_1 : decode b_Mo_end 1 = .ok (.aload_n 0, 1) := by decide +kernel
theorem d_Mo_end_2 : decode b_Mo_end 2 = .ok (.getfield 45, 3) := by decide +kernel
theorem d_Mo_end_5 : decode b_Mo_end 5 = .ok (.iload_n 1, 1) := by decide +kernel
theorem d_Mo_end_6 : decode b_Mo_end 6 = .ok (.isub, 1) := by decide +kernel
theorem d_Mo_end_7 : decode b_Mo_end 7 = .ok (.if_icmp .le 10, 3) := by decide +kernel
theorem d_Mo_end_10 : decode b_Mo_end 10 = .ok (.aload_n 0, 1) := by decide +kernel
theorem d_Mo_end_11 : decode b_Mo_end 11 = .ok (.getfield 45, 3) := by decide +kernel
theorem d_Mo_end_14 : decode b_Mo_end 14 = .ok (.goto 6, 3) := by decide +kernel
theorem d_Mo_end_17 : decode b_Mo_end 17 = .ok (.iload_n 1, 1) := by decide +kernel
theorem d_Mo_end_18 : decode b_Mo_end 18 = .ok (.iload_n 2, 1) := by decide +kernel
theorem d_Mo_end_19 : decode b_Mo_end 19 = .ok (.iadd, 1) := by decide +kernel
theorem d_Mo_end_20 : decode b_Mo_end 20 = .ok (.ireturn, 1) := by decide +kernel
abbrev b_Mo_scale : ByteArray := prog_8_method_10_code
def y_Mo_scale : MethodName := ⟨"MaskLayersModel", "scale", "(I)I"⟩
theorem d_Mo_scale_0 : decode b_Mo_scale 0 = .ok (.iload_n 1, 1) := by decide +kernel
theorem d_Mo_scale_1 : decode b_Mo_scale 1 = .ok (.ifCond .ne 10, 3) := by decide +kernel
theorem d_Mo_scale_4 : decode b_Mo_scale 4 = .ok (.aload_n 0, 1) := by decide +kernel
theorem d_Mo_scale_5 : decode b_Mo_scale 5 = .ok (.getfield 75, 3) := by decide +kernel
theorem d_Mo_scale_8 : decode b_Mo_scale 8 = .ok (.goto 16, 3) := by decide +kernel
theorem d_Mo_scale_11 : decode b_Mo_scale 11 = .ok (.iload_n 1, 1) := by decide +kernel
theorem d_Mo_scale_12 : decode b_Mo_scale 12 = .ok (.iconst 2, 1) := by decide +kernel
theorem d_Mo_scale_13 : decode b_Mo_scale 13 = .ok (.if_icmp .ne 10, 3) := by decide +kernel
theorem d_Mo_scale_16 : decode b_Mo_scale 16 = .ok (.aload_n 0, 1) := by decide +kernel
theorem d_Mo_scale_17 : decode b_Mo_scale 17 = .ok (.getfield 78, 3) := by decide +kernel
theorem d_Mo_scale_20 : decode b_Mo_scale 20 = .ok (.goto 4, 3) := by decide +kernel
theorem d_Mo_scale_23 : decode b_Mo_scale 23 = .ok (.iconst 1, 1) := by decide +kernel
theorem d_Mo_scale_24 : decode b_Mo_scale 24 = .ok (.ireturn, 1) := by decide +kernel
abbrev b_Mo_across : ByteArray := prog_8_method_11_code
def y_Mo_across : MethodName := ⟨"MaskLayersModel", "across", "(I)I"⟩
theorem d_Mo_across_0 : decode b_Mo_across 0 = .ok (.aload_n 0, 1) := by decide +kernel
theorem d_Mo_across_1 : decode b_Mo_across 1 = .ok (.getfield 66, 3) := by decide +kernel
theorem d_Mo_across_4 : decode b_Mo_across 4 = .ok (.aload_n 0, 1) := by decide +kernel
theorem d_Mo_across_5 : decode b_Mo_across 5 = .ok (.iload_n 1, 1) := by decide +kernel
theorem d_Mo_across_6 : decode b_Mo_across 6 = .ok (.invokevirtual 81, 3) := by decide +kernel
theorem d_Mo_across_9 : decode b_Mo_across 9 = .ok (.iadd, 1) := by decide +kernel
theorem d_Mo_across_10 : decode b_Mo_across 10 = .ok (.iconst 1, 1) := by decide +kernel
theorem d_Mo_across_11 : decode b_Mo_across 11 = .ok (.isub, 1) := by decide +kernel
theorem d_Mo_across_12 : decode b_Mo_across 12 = .ok (.aload_n 0, 1) := by decide +kernel
theorem d_Mo_across_13 : decode b_Mo_across 13 = .ok (.iload_n 1, 1) := by decide +kernel
theorem d_Mo_across_14 : decode b_Mo_across 14 = .ok (.invokevirtual 81, 3) := by decide +kernel
theorem d_Mo_across_17 : decode b_Mo_across 17 = .ok (.idiv, 1) := by decide +kernel
theorem d_Mo_across_18 : decode b_Mo_across 18 = .ok (.ireturn, 1) := by decide +kernel
abbrev b_Mo_count : ByteArray := prog_8_method_12_code
def y_Mo_count : MethodName := ⟨"MaskLayersModel", "count", "(I)I"⟩
theorem d_Mo_count_0 : decode b_Mo_count 0 = .ok (.aload_n 0, 1) := by decide +kernel
theorem d_Mo_count_1 : decode b_Mo_count 1 = .ok (.iload_n 1, 1) := by decide +kernel
theorem d_Mo_count_2 : decode b_Mo_count 2 = .ok (.invokevirtual 85, 3) := by decide +kernel
theorem d_Mo_count_5 : decode b_Mo_count 5 = .ok (.aload_n 0, 1) := by decide +kernel
theorem d_Mo_count_6 : decode b_Mo_count 6 = .ok (.getfield 72, 3) := by decide +kernel
theorem d_Mo_count_9 : decode b_Mo_count 9 = .ok (.aload_n 0, 1) := by decide +kernel
theorem d_Mo_count_10 : decode b_Mo_count 10 = .ok (.iload_n 1, 1) := by decide +kernel
theorem d_Mo_count_11 : decode b_Mo_count 11 = .ok (.invokevirtual 81, 3) := by decide +kernel
theorem d_Mo_count_14 : decode b_Mo_count 14 = .ok (.iadd, 1) := by decide +kernel
theorem d_Mo_count_15 : decode b_Mo_count 15 = .ok (.iconst 1, 1) := by decide +kernel
theorem d_Mo_count_16 : decode b_Mo_count 16 = .ok (.isub, 1) := by decide +kernel
theorem d_Mo_count_17 : decode b_Mo_count 17 = .ok (.aload_n 0, 1) := by decide +kernel
theorem d_Mo_count_18 : decode b_Mo_count 18 = .ok (.iload_n 1, 1) := by decide +kernel
theorem d_Mo_count_19 : decode b_Mo_count 19 = .ok (.invokevirtual 81, 3) := by decide +kernel
theorem d_Mo_count_22 : decode b_Mo_count 22 = .ok (.idiv, 1) := by decide +kernel
theorem d_Mo_count_23 : decode b_Mo_count 23 = .ok (.imul, 1) := by decide +kernel
theorem d_Mo_count_24 : decode b_Mo_count 24 = .ok (.ireturn, 1) := by decide +kernel
abbrev b_Mo_place : ByteArray := prog_8_method_13_code
def y_Mo_place : MethodName := ⟨"MaskLayersModel", "place", "(II)I"⟩
theorem d_Mo_place_0 : decode b_Mo_place 0 = .ok (.aload_n 0, 1) := by decide +kernel
theorem d_Mo_place_1 : decode b_Mo_place 1 = .ok (.iload_n 1, 1) := by decide +kernel
theorem d_Mo_place_2 : decode b_Mo_place 2 = .ok (.invokevirtual 81, 3) := by decide +kernel
theorem d_Mo_place_5 : decode b_Mo_place 5 = .ok (.istore_n 3, 1) := by decide +kernel
theorem d_Mo_place_6 : decode b_Mo_place 6 = .ok (.sipush 576, 3) := by decide +kernel
theorem d_Mo_place_9 : decode b_Mo_place 9 = .ok (.iload_n 1, 1) := by decide +kernel
theorem d_Mo_place_10 : decode b_Mo_place 10 = .ok (.imul, 1) := by decide +kernel
theorem d_Mo_place_11 : decode b_Mo_place 11 = .ok (.bipush 24, 2) := by decide +kernel
theorem d_Mo_place_13 : decode b_Mo_place 13 = .ok (.aload_n 0, 1) := by decide +kernel
theorem d_Mo_place_14 : decode b_Mo_place 14 = .ok (.getfield 69, 3) := by decide +kernel
theorem d_Mo_place_17 : decode b_Mo_place 17 = .ok (.iload_n 2, 1) := by decide +kernel
theorem d_Mo_place_18 : decode b_Mo_place 18 = .ok (.aload_n 0, 1) := by decide +kernel
theorem d_Mo_place_19 : decode b_Mo_place 19 = .ok (.iload_n 1, 1) := by decide +kernel
theorem d_Mo_place_20 : decode b_Mo_place 20 = .ok (.invokevirtual 85, 3) := by decide +kernel
theorem d_Mo_place_23 : decode b_Mo_place 23 = .ok (.idiv, 1) := by decide +kernel
theorem d_Mo_place_24 : decode b_Mo_place 24 = .ok (.iload_n 3, 1) := by decide +kernel
theorem d_Mo_place_25 : decode b_Mo_place 25 = .ok (.imul, 1) := by decide +kernel
theorem d_Mo_place_26 : decode b_Mo_place 26 = .ok (.iadd, 1) := by decide +kernel
theorem d_Mo_place_27 : decode b_Mo_place 27 = .ok (.imul, 1) := by decide +kernel
theorem d_Mo_place_28 : decode b_Mo_place 28 = .ok (.iadd, 1) := by decide +kernel
theorem d_Mo_place_29 : decode b_Mo_place 29 = .ok (.iload_n 2, 1) := by decide +kernel
theorem d_Mo_place_30 : decode b_Mo_place 30 = .ok (.aload_n 0, 1) := by decide +kernel
theorem d_Mo_place_31 : decode b_Mo_place 31 = .ok (.iload_n 1, 1) := by decide +kernel
theorem d_Mo_place_32 : decode b_Mo_place 32 = .ok (.invokevirtual 85, 3) := by decide +kernel
theorem d_Mo_place_35 : decode b_Mo_place 35 = .ok (.irem, 1) := by decide +kernel
theorem d_Mo_place_36 : decode b_Mo_place 36 = .ok (.iload_n 3, 1) := by decide +kernel
theorem d_Mo_place_37 : decode b_Mo_place 37 = .ok (.imul, 1) := by decide +kernel
theorem d_Mo_place_38 : decode b_Mo_place 38 = .ok (.iadd, 1) := by decide +kernel
theorem d_Mo_place_39 : decode b_Mo_place 39 = .ok (.ireturn, 1) := by decide +kernel
abbrev b_Mo_placeAt : ByteArray := prog_8_method_14_code
def y_Mo_placeAt : MethodName := ⟨"MaskLayersModel", "placeAt", "(III)I"⟩
theorem d_Mo_placeAt_0 : decode b_Mo_placeAt 0 = .ok (.aload_n 0, 1) := by decide +kernel
theorem d_Mo_placeAt_1 : decode b_Mo_placeAt 1 = .ok (.iload_n 1, 1) := by decide +kernel
theorem d_Mo_placeAt_2 : decode b_Mo_placeAt 2 = .ok (.invokevirtual 81, 3) := by decide +kernel
theorem d_Mo_placeAt_5 : decode b_Mo_placeAt 5 = .ok (.istore 4, 2) := by decide +kernel
theorem d_Mo_placeAt_7 : decode b_Mo_placeAt 7 = .ok (.sipush 576, 3) := by decide +kernel
theorem d_Mo_placeAt_10 : decode b_Mo_placeAt 10 = .ok (.iload_n 1, 1) := by decide +kernel
theorem d_Mo_placeAt_11 : decode b_Mo_placeAt 11 = .ok (.imul, 1) := by decide +kernel
theorem d_Mo_placeAt_12 : decode b_Mo_placeAt 12 = .ok (.bipush 24, 2) := by decide +kernel
theorem d_Mo_placeAt_14 : decode b_Mo_placeAt 14 = .ok (.aload_n 0, 1) := by decide +kernel
theorem d_Mo_placeAt_15 : decode b_Mo_placeAt 15 = .ok (.getfield 69, 3) := by decide +kernel
theorem d_Mo_placeAt_18 : decode b_Mo_placeAt 18 = .ok (.iload_n 3, 1) := by decide +kernel
theorem d_Mo_placeAt_19 : decode b_Mo_placeAt 19 = .ok (.aload_n 0, 1) := by decide +kernel
theorem d_Mo_placeAt_20 : decode b_Mo_placeAt 20 = .ok (.getfield 69, 3) := by decide +kernel
theorem d_Mo_placeAt_23 : decode b_Mo_placeAt 23 = .ok (.isub, 1) := by decide +kernel
theorem d_Mo_placeAt_24 : decode b_Mo_placeAt 24 = .ok (.iload 4, 2) := by decide +kernel
theorem d_Mo_placeAt_26 : decode b_Mo_placeAt 26 = .ok (.idiv, 1) := by decide +kernel
theorem d_Mo_placeAt_27 : decode b_Mo_placeAt 27 = .ok (.iload 4, 2) := by decide +kernel
theorem d_Mo_placeAt_29 : decode b_Mo_placeAt 29 = .ok (.imul, 1) := by decide +kernel
theorem d_Mo_placeAt_30 : decode b_Mo_placeAt 30 = .ok (.iadd, 1) := by decide +kernel
theorem d_Mo_placeAt_31 : decode b_Mo_placeAt 31 = .ok (.imul, 1) := by decide +kernel
theorem d_Mo_placeAt_32 : decode b_Mo_placeAt 32 = .ok (.iadd, 1) := by decide +kernel
theorem d_Mo_placeAt_33 : decode b_Mo_placeAt 33 = .ok (.iload_n 2, 1) := by decide +kernel
theorem d_Mo_placeAt_34 : decode b_Mo_placeAt 34 = .ok (.iload 4, 2) := by decide +kernel
theorem d_Mo_placeAt_36 : decode b_Mo_placeAt 36 = .ok (.idiv, 1) := by decide +kernel
theorem d_Mo_placeAt_37 : decode b_Mo_placeAt 37 = .ok (.iload 4, 2) := by decide +kernel
theorem d_Mo_placeAt_39 : decode b_Mo_placeAt 39 = .ok (.imul, 1) := by decide +kernel
theorem d_Mo_placeAt_40 : decode b_Mo_placeAt 40 = .ok (.iadd, 1) := by decide +kernel
theorem d_Mo_placeAt_41 : decode b_Mo_placeAt 41 = .ok (.ireturn, 1) := by decide +kernel
abbrev b_Mo_mean : ByteArray := prog_8_method_16_code
def y_Mo_mean : MethodName := ⟨"MaskLayersModel", "mean", "(III)I"⟩
theorem d_Mo_mean_0 : decode b_Mo_mean 0 = .ok (.aload_n 0, 1) := by decide +kernel
theorem d_Mo_mean_1 : decode b_Mo_mean 1 = .ok (.iload_n 1, 1) := by decide +kernel
theorem d_Mo_mean_2 : decode b_Mo_mean 2 = .ok (.iload_n 2, 1) := by decide +kernel
theorem d_Mo_mean_3 : decode b_Mo_mean 3 = .ok (.invokevirtual 88, 3) := by decide +kernel
theorem d_Mo_mean_6 : decode b_Mo_mean 6 = .ok (.sipush 576, 3) := by decide +kernel
theorem d_Mo_mean_9 : decode b_Mo_mean 9 = .ok (.iload_n 1, 1) := by decide +kernel
theorem d_Mo_mean_10 : decode b_Mo_mean 10 = .ok (.imul, 1) := by decide +kernel
theorem d_Mo_mean_11 : decode b_Mo_mean 11 = .ok (.isub, 1) := by decide +kernel
theorem d_Mo_mean_12 : decode b_Mo_mean 12 = .ok (.istore 4, 2) := by decide +kernel
theorem d_Mo_mean_14 : decode b_Mo_mean 14 = .ok (.iconst 0, 1) := by decide +kernel
theorem d_Mo_mean_15 : decode b_Mo_mean 15 = .ok (.istore 5, 2) := by decide +kernel
theorem d_Mo_mean_17 : decode b_Mo_mean 17 = .ok (.iconst 0, 1) := by decide +kernel
theorem d_Mo_mean_18 : decode b_Mo_mean 18 = .ok (.istore 6, 2) := by decide +kernel
theorem d_Mo_mean_20 : decode b_Mo_mean 20 = .ok (.iload 4, 2) := by decide +kernel
theorem d_Mo_mean_22 : decode b_Mo_mean 22 = .ok (.bipush 24, 2) := by decide +kernel
theorem d_Mo_mean_24 : decode b_Mo_mean 24 = .ok (.idiv, 1) := by decide +kernel
theorem d_Mo_mean_25 : decode b_Mo_mean 25 = .ok (.istore 7, 2) := by decide +kernel
theorem d_Mo_mean_27 : decode b_Mo_mean 27 = .ok (.iload 7, 2) := by decide +kernel
theorem d_Mo_mean_29 : decode b_Mo_mean 29 = .ok (.iload 4, 2) := by decide +kernel
theorem d_Mo_mean_31 : decode b_Mo_mean 31 = .ok (.bipush 24, 2) := by decide +kernel
theorem d_Mo_mean_33 : decode b_Mo_mean 33 = .ok (.idiv, 1) := by decide +kernel
theorem d_Mo_mean_34 : decode b_Mo_mean 34 = .ok (.aload_n 0, 1) := by decide +kernel
theorem d_Mo_mean_35 : decode b_Mo_mean 35 = .ok (.iload_n 1, 1) := by decide +kernel
theorem d_Mo_mean_36 : decode b_Mo_mean 36 = .ok (.invokevirtual 81, 3) := by decide +kernel
theorem d_Mo_mean_39 : decode b_Mo_mean 39 = .ok (.iadd, 1) := by decide +kernel
theorem d_Mo_mean_40 : decode b_Mo_mean 40 = .ok (.if_icmp .ge 112, 3) := by decide +kernel
theorem d_Mo_mean_43 : decode b_Mo_mean 43 = .ok (.iload 7, 2) := by decide +kernel
theorem d_Mo_mean_45 : decode b_Mo_mean 45 = .ok (.aload_n 0, 1) := by decide +kernel
theorem d_Mo_mean_46 : decode b_Mo_mean 46 = .ok (.getfield 69, 3) := by decide +kernel
theorem d_Mo_mean_49 : decode b_Mo_mean 49 = .ok (.aload_n 0, 1) := by decide +kernel
theorem d_Mo_mean_50 : decode b_Mo_mean 50 = .ok (.getfield 72, 3) := by decide +kernel
theorem d_Mo_mean_53 : decode b_Mo_mean 53 = .ok (.iadd, 1) := by decide +kernel
theorem d_Mo_mean_54 : decode b_Mo_mean 54 = .ok (.if_icmp .ge 98, 3) := by decide +kernel
theorem d_Mo_mean_57 : decode b_Mo_mean 57 = .ok (.iload 4, 2) := by decide +kernel
theorem d_Mo_mean_59 : decode b_Mo_mean 59 = .ok (.bipush 24, 2) := by decide +kernel
theorem d_Mo_mean_61 : decode b_Mo_mean 61 = .ok (.irem, 1) := by decide +kernel
theorem d_Mo_mean_62 : decode b_Mo_mean 62 = .ok (.istore 8, 2) := by decide +kernel
theorem d_Mo_mean_64 : decode b_Mo_mean 64 = .ok (.iload 8, 2) := by decide +kernel
theorem d_Mo_mean_66 : decode b_Mo_mean 66 = .ok (.iload 4, 2) := by decide +kernel
theorem d_Mo_mean_68 : decode b_Mo_mean 68 = .ok (.bipush 24, 2) := by decide +kernel
theorem d_Mo_mean_70 : decode b_Mo_mean 70 = .ok (.irem, 1) := by decide +kernel
theorem d_Mo_mean_71 : decode b_Mo_mean 71 = .ok (.aload_n 0, 1) := by decide +kernel
theorem d_Mo_mean_72 : decode b_Mo_mean 72 = .ok (.iload_n 1, 1) := by decide +kernel
theorem d_Mo_mean_73 : decode b_Mo_mean 73 = .ok (.invokevirtual 81, 3) := by decide +kernel
theorem d_Mo_mean_76 : decode b_Mo_mean 76 = .ok (.iadd, 1) := by decide +kernel
theorem d_Mo_mean_77 : decode b_Mo_mean 77 = .ok (.if_icmp .ge 69, 3) := by decide +kernel
theorem d_Mo_mean_80 : decode b_Mo_mean 80 = .ok (.iload 8, 2) := by decide +kernel
theorem d_Mo_mean_82 : decode b_Mo_mean 82 = .ok (.aload_n 0, 1) := by decide +kernel
theorem d_Mo_mean_83 : decode b_Mo_mean 83 = .ok (.getfield 66, 3) := by decide +kernel
theorem d_Mo_mean_86 : decode b_Mo_mean 86 = .ok (.if_icmp .ge 60, 3) := by decide +kernel
theorem d_Mo_mean_89 : decode b_Mo_mean 89 = .ok (.aload_n 0, 1) := by decide +kernel
theorem d_Mo_mean_90 : decode b_Mo_mean 90 = .ok (.getfield 17, 3) := by decide +kernel
theorem d_Mo_mean_93 : decode b_Mo_mean 93 = .ok (.bipush 24, 2) := by decide +kernel
theorem d_Mo_mean_95 : decode b_Mo_mean 95 = .ok (.iload 7, 2) := by decide +kernel
theorem d_Mo_mean_97 : decode b_Mo_mean 97 = .ok (.imul, 1) := by decide +kernel
theorem d_Mo_mean_98 : decode b_Mo_mean 98 = .ok (.iload 8, 2) := by decide +kernel
theorem d_Mo_mean_100 : decode b_Mo_mean 100 = .ok (.iadd, 1) := by decide +kernel
theorem d_Mo_mean_101 : decode b_Mo_mean 101 = .ok (.baload, 1) := by decide +kernel
theorem d_Mo_mean_102 : decode b_Mo_mean 102 = .ok (.iload_n 1, 1) := by decide +kernel
theorem d_Mo_mean_103 : decode b_Mo_mean 103 = .ok (.iconst 2, 1) := by decide +kernel
theorem d_Mo_mean_104 : decode b_Mo_mean 104 = .ok (.if_icmp .ne 7, 3) := by decide +kernel
theorem d_Mo_mean_107 : decode b_Mo_mean 107 = .ok (.iconst 1, 1) := by decide +kernel
theorem d_Mo_mean_108 : decode b_Mo_mean 108 = .ok (.goto 4, 3) := by decide +kernel
theorem d_Mo_mean_111 : decode b_Mo_mean 111 = .ok (.iconst 0, 1) := by decide +kernel
theorem d_Mo_mean_112 : decode b_Mo_mean 112 = .ok (.if_icmp .ne 28, 3) := by decide +kernel
theorem d_Mo_mean_115 : decode b_Mo_mean 115 = .ok (.iload 5, 2) := by decide +kernel
theorem d_Mo_mean_117 : decode b_Mo_mean 117 = .ok (.aload_n 0, 1) := by decide +kernel
theorem d_Mo_mean_118 : decode b_Mo_mean 118 = .ok (.getfield 13, 3) := by decide +kernel
