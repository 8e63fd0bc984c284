theorem d_Mo_read_177 : decode b_Mo_read 177 = .ok (.ifCond .lt 10, 3) := by decide +kernel
theorem d_Mo_read_180 : decode b_Mo_read 180 = .ok (.iconst (-1), 1) := by decide +kernel
theorem d_Mo_read_181 : decode b_Mo_read 181 = .ok (.aload_n 0, 1) := by decide +kernel
theorem d_Mo_read_182 : decode b_Mo_read 182 = .ok (.getfield 169, 3) := by decide +kernel
theorem d_Mo_read_185 : decode b_Mo_read 185 = .ok (.isub, 1) := by decide +kernel
theorem d_Mo_read_186 : decode b_Mo_read 186 = .ok (.ireturn, 1) := by decide +kernel
theorem d_Mo_read_187 : decode b_Mo_read 187 = .ok (.aload_n 0, 1) := by decide +kernel
theorem d_Mo_read_188 : decode b_Mo_read 188 = .ok (.iload_n 1, 1) := by decide +kernel
theorem d_Mo_read_189 : decode b_Mo_read 189 = .ok (.putfield 200, 3) := by decide +kernel
theorem d_Mo_read_192 : decode b_Mo_read 192 = .ok (.aload_n 0, 1) := by decide +kernel
theorem d_Mo_read_193 : decode b_Mo_read 193 = .ok (.iload_n 2, 1) := by decide +kernel
theorem d_Mo_read_194 : decode b_Mo_read 194 = .ok (.putfield 203, 3) := by decide +kernel
theorem d_Mo_read_197 : decode b_Mo_read 197 = .ok (.iload 4, 2) := by decide +kernel
theorem d_Mo_read_199 : decode b_Mo_read 199 = .ok (.ireturn, 1) := by decide +kernel
abbrev b_Mo_at : ByteArray := prog_8_method_49_code
def y_Mo_at : MethodName := ⟨"MaskLayersModel", "at", "(II)I"⟩
theorem d_Mo_at_0 : decode b_Mo_at 0 = .ok (.aload_n 0, 1) := by decide +kernel
theorem d_Mo_at_1 : decode b_Mo_at 1 = .ok (.aload_n 0, 1) := by decide +kernel
theorem d_Mo_at_2 : decode b_Mo_at 2 = .ok (.getfield 200, 3) := by decide +kernel
theorem d_Mo_at_5 : decode b_Mo_at 5 = .ok (.ifCond .ne 7, 3) := by decide +kernel
theorem d_Mo_at_8 : decode b_Mo_at 8 = .ok (.iconst 1, 1) := by decide +kernel
theorem d_Mo_at_9 : decode b_Mo_at 9 = .ok (.goto 32, 3) := by decide +kernel
theorem d_Mo_at_12 : decode b_Mo_at 12 = .ok (.iload_n 1, 1) := by decide +kernel
theorem d_Mo_at_13 : decode b_Mo_at 13 = .ok (.ifCond .lt 23, 3) := by decide +kernel
theorem d_Mo_at_16 : decode b_Mo_at 16 = .ok (.iload_n 2, 1) := by decide +kernel
theorem d_Mo_at_17 : decode b_Mo_at 17 = .ok (.ifCond .lt 19, 3) := by decide +kernel
theorem d_Mo_at_20 : decode b_Mo_at 20 = .ok (.iload_n 1, 1) := by decide +kernel
theorem d_Mo_at_21 : decode b_Mo_at 21 = .ok (.aload_n 0, 1) := by decide +kernel
theorem d_Mo_at_22 : decode b_Mo_at 22 = .ok (.getfield 200, 3) := by decide +kernel
theorem d_Mo_at_25 : decode b_Mo_at 25 = .ok (.if_icmp .ge 11, 3) := by decide +kernel
theorem d_Mo_at_28 : decode b_Mo_at 28 = .ok (.iload_n 2, 1) := by decide +kernel
theorem d_Mo_at_29 : decode b_Mo_at 29 = .ok (.aload_n 0, 1) := by decide +kernel
theorem d_Mo_at_30 : decode b_Mo_at 30 = .ok (.getfield 203, 3) := by decide +kernel
theorem d_Mo_at_33 : decode b_Mo_at 33 = .ok (.if_icmp .lt 7, 3) := by decide +kernel
theorem d_Mo_at_36 : decode b_Mo_at 36 = .ok (.iconst 2, 1) := by decide +kernel
theorem d_Mo_at_37 : decode b_Mo_at 37 = .ok (.goto 4, 3) := by decide +kernel
theorem d_Mo_at_40 : decode b_Mo_at 40 = .ok (.iconst 0, 1) := by decide +kernel
theorem d_Mo_at_41 : decode b_Mo_at 41 = .ok (.putfield 51, 3) := by decide +kernel
theorem d_Mo_at_44 : decode b_Mo_at 44 = .ok (.aload_n 0, 1) := by decide +kernel
theorem d_Mo_at_45 : decode b_Mo_at 45 = .ok (.getfield 51, 3) := by decide +kernel
theorem d_Mo_at_48 : decode b_Mo_at 48 = .ok (.ifCond .le 7, 3) := by decide +kernel
theorem d_Mo_at_51 : decode b_Mo_at 51 = .ok (.iconst 0, 1) := by decide +kernel
theorem d_Mo_at_52 : decode b_Mo_at 52 = .ok (.goto 14, 3) := by decide +kernel
theorem d_Mo_at_55 : decode b_Mo_at 55 = .ok (.aload_n 0, 1) := by decide +kernel
theorem d_Mo_at_56 : decode b_Mo_at 56 = .ok (.getfield 42, 3) := by decide +kernel
theorem d_Mo_at_59 : decode b_Mo_at 59 = .ok (.bipush 24, 2) := by decide +kernel
theorem d_Mo_at_61 : decode b_Mo_at 61 = .ok (.iload_n 2, 1) := by decide +kernel
theorem d_Mo_at_62 : decode b_Mo_at 62 = .ok (.imul, 1) := by decide +kernel
theorem d_Mo_at_63 : decode b_Mo_at 63 = .ok (.iload_n 1, 1) := by decide +kernel
theorem d_Mo_at_64 : decode b_Mo_at 64 = .ok (.iadd, 1) := by decide +kernel
theorem d_Mo_at_65 : decode b_Mo_at 65 = .ok (.iaload, 1) := by decide +kernel
theorem d_Mo_at_66 : decode b_Mo_at 66 = .ok (.ireturn, 1) := by decide +kernel
abbrev b_Mo_told : ByteArray := prog_8_method_50_code
def y_Mo_told : MethodName := ⟨"MaskLayersModel", "told", "(I)I"⟩
theorem d_Mo_told_0 : decode b_Mo_told 0 = .ok (.aload_n 0, 1) := by decide +kernel
theorem d_Mo_told_1 : decode b_Mo_told 1 = .ok (.iconst 0, 1) := by decide +kernel
theorem d_Mo_told_2 : decode b_Mo_told 2 = .ok (.putfield 51, 3) := by decide +kernel
theorem d_Mo_told_5 : decode b_Mo_told 5 = .ok (.iconst 0, 1) := by decide +kernel
theorem d_Mo_told_6 : decode b_Mo_told 6 = .ok (.istore_n 2, 1) := by decide +kernel
theorem d_Mo_told_7 : decode b_Mo_told 7 = .ok (.iconst 0, 1) := by decide +kernel
theorem d_Mo_told_8 : decode b_Mo_told 8 = .ok (.istore_n 3, 1) := by decide +kernel
theorem d_Mo_told_9 : decode b_Mo_told 9 = .ok (.iload_n 3, 1) := by decide +kernel
theorem d_Mo_told_10 : decode b_Mo_told 10 = .ok (.sipush 576, 3) := by decide +kernel
theorem d_Mo_told_13 : decode b_Mo_told 13 = .ok (.if_icmp .ge 26, 3) := by decide +kernel
theorem d_Mo_told_16 : decode b_Mo_told 16 = .ok (.iload_n 2, 1) := by decide +kernel
theorem d_Mo_told_17 : decode b_Mo_told 17 = .ok (.aload_n 0, 1) := by decide +kernel
theorem d_Mo_told_18 : decode b_Mo_told 18 = .ok (.getfield 17, 3) := by decide +kernel
theorem d_Mo_told_21 : decode b_Mo_told 21 = .ok (.iload_n 3, 1) := by decide +kernel
theorem d_Mo_told_22 : decode b_Mo_told 22 = .ok (.baload, 1) := by decide +kernel
theorem d_Mo_told_23 : decode b_Mo_told 23 = .ok (.ifCond .eq 7, 3) := by decide +kernel
theorem d_Mo_told_26 : decode b_Mo_told 26 = .ok (.iconst 1, 1) := by decide +kernel
theorem d_Mo_told_27 : decode b_Mo_told 27 = .ok (.goto 4, 3) := by decide +kernel
theorem d_Mo_told_30 : decode b_Mo_told 30 = .ok (.iconst 0, 1) := by decide +kernel
theorem d_Mo_told_31 : decode b_Mo_told 31 = .ok (.iadd, 1) := by decide +kernel
theorem d_Mo_told_32 : decode b_Mo_told 32 = .ok (.istore_n 2, 1) := by decide +kernel
theorem d_Mo_told_33 : decode b_Mo_told 33 = .ok (.iinc 3 1, 3) := by decide +kernel
theorem d_Mo_told_36 : decode b_Mo_told 36 = .ok (.goto (-27), 3) := by decide +kernel
theorem d_Mo_told_39 : decode b_Mo_told 39 = .ok (.iload_n 1, 1) := by decide +kernel
theorem d_Mo_told_40 : decode b_Mo_told 40 = .ok (.tableswitch 112 0 8 #[52, 57, 62, 74, 76, 81, 86, 91, 96], 52) := by decide +kernel
theorem d_Mo_told_92 : decode b_Mo_told 92 = .ok (.aload_n 0, 1) := by decide +kernel
theorem d_Mo_told_93 : decode b_Mo_told 93 = .ok (.getfield 45, 3) := by decide +kernel
theorem d_Mo_told_96 : decode b_Mo_told 96 = .ok (.ireturn, 1) := by decide +kernel
theorem d_Mo_told_97 : decode b_Mo_told 97 = .ok (.aload_n 0, 1) := by decide +kernel
theorem d_Mo_told_98 : decode b_Mo_told 98 = .ok (.getfield 48, 3) := by decide +kernel
theorem d_Mo_told_101 : decode b_Mo_told 101 = .ok (.ireturn, 1) := by decide +kernel
theorem d_Mo_told_102 : decode b_Mo_told 102 = .ok (.aload_n 0, 1) := by decide +kernel
theorem d_Mo_told_103 : decode b_Mo_told 103 = .ok (.getfield 48, 3) := by decide +kernel
theorem d_Mo_told_106 : decode b_Mo_told 106 = .ok (.aload_n 0, 1) := by decide +kernel
theorem d_Mo_told_107 : decode b_Mo_told 107 = .ok (.getfield 7, 3) := by decide +kernel
theorem d_Mo_told_110 : decode b_Mo_told 110 = .ok (.invokestatic 63, 3) := by decide +kernel
theorem d_Mo_told_113 : decode b_Mo_told 113 = .ok (.ireturn, 1) := by decide +kernel
theorem d_Mo_told_114 : decode b_Mo_told 114 = .ok (.iload_n 2, 1) := by decide +kernel
theorem d_Mo_told_115 : decode b_Mo_told 115 = .ok (.ireturn, 1) := by decide +kernel
theorem d_Mo_told_116 : decode b_Mo_told 116 = .ok (.aload_n 0, 1) := by decide +kernel
theorem d_Mo_told_117 : decode b_Mo_told 117 = .ok (.getfield 147, 3) := by decide +kernel
theorem d_Mo_told_120 : decode b_Mo_told 120 = .ok (.ireturn, 1) := by decide +kernel
theorem d_Mo_told_121 : decode b_Mo_told 121 = .ok (.aload_n 0, 1) := by decide +kernel
theorem d_Mo_told_122 : decode b_Mo_told 122 = .ok (.getfield 166, 3) := by decide +kernel
theorem d_Mo_told_125 : decode b_Mo_told 125 = .ok (.ireturn, 1) := by decide +kernel
theorem d_Mo_told_126 : decode b_Mo_told 126 = .ok (.aload_n 0, 1) := by decide +kernel
theorem d_Mo_told_127 : decode b_Mo_told 127 = .ok (.getfield 200, 3) := by decide +kernel
theorem d_Mo_told_130 : decode b_Mo_told 130 = .ok (.ireturn, 1) := by decide +kernel
theorem d_Mo_told_131 : decode b_Mo_told 131 = .ok (.aload_n 0, 1) := by decide +kernel
theorem d_Mo_told_132 : decode b_Mo_told 132 = .ok (.getfield 203, 3) := by decide +kernel
theorem d_Mo_told_135 : decode b_Mo_told 135 = .ok (.ireturn, 1) := by decide +kernel
theorem d_Mo_told_136 : decode b_Mo_told 136 = .ok (.aload_n 0, 1) := by decide +kernel
theorem d_Mo_told_137 : decode b_Mo_told 137 = .ok (.getfield 124, 3) := by decide +kernel
theorem d_Mo_told_140 : decode b_Mo_told 140 = .ok (.ifCond .eq 10, 3) := by decide +kernel
theorem d_Mo_told_143 : decode b_Mo_told 143 = .ok (.aload_n 0, 1) := by decide +kernel
theorem d_Mo_told_144 : decode b_Mo_told 144 = .ok (.getfield 134, 3) := by decide +kernel
theorem d_Mo_told_147 : decode b_Mo_told 147 = .ok (.goto 4, 3) := by decide +kernel
theorem d_Mo_told_150 : decode b_Mo_told 150 = .ok (.iconst 0, 1) := by decide +kernel
theorem d_Mo_told_151 : decode b_Mo_told 151 = .ok (.ireturn, 1) := by decide +kernel
theorem d_Mo_told_152 : decode b_Mo_told 152 = .ok (.iconst (-1), 1) := by decide +kernel
theorem d_Mo_told_153 : decode b_Mo_told 153 = .ok (.ireturn, 1) := by decide +kernel
abbrev b_Mo_clear : ByteArray := prog_8_method_51_code
def y_Mo_clear : MethodName := ⟨"MaskLayersModel", "clear", "()V"⟩
theorem d_Mo_clear_0 : decode b_Mo_clear 0 = .ok (.aload_n 0, 1) := by decide +kernel
theorem d_Mo_clear_1 : decode b_Mo_clear 1 = .ok (.iconst 0, 1) := by decide +kernel
theorem d_Mo_clear_2 : decode b_Mo_clear 2 = .ok (.putfield 51, 3) := by decide +kernel
theorem d_Mo_clear_5 : decode b_Mo_clear 5 = .ok (.iconst 0, 1) := by decide +kernel
theorem d_Mo_clear_6 : decode b_Mo_clear 6 = .ok (.istore_n 1, 1) := by decide +kernel
theorem d_Mo_clear_7 : decode b_Mo_clear 7 = .ok (.iload_n 1, 1) := by decide +kernel
theorem d_Mo_clear_8 : decode b_Mo_clear 8 = .ok (.sipush 576, 3) := by decide +kernel
theorem d_Mo_clear_11 : decode b_Mo_clear 11 = .ok (.if_icmp .ge 23, 3) := by decide +kernel
theorem d_Mo_clear_14 : decode b_Mo_clear 14 = .ok (.aload_n 0, 1) := by decide +kernel
theorem d_Mo_clear_15 : decode b_Mo_clear 15 = .ok (.getfield 13, 3) := by decide +kernel
theorem d_Mo_clear_18 : decode b_Mo_clear 18 = .ok (.iload_n 1, 1) := by decide +kernel
theorem d_Mo_clear_19 : decode b_Mo_clear 19 = .ok (.iconst 0, 1) := by decide +kernel
theorem d_Mo_clear_20 : decode b_Mo_clear 20 = .ok (.iastore, 1) := by decide +kernel
theorem d_Mo_clear_21 : decode b_Mo_clear 21 = .ok (.aload_n 0, 1) := by decide +kernel
theorem d_Mo_clear_22 : decode b_Mo_clear 22 = .ok (.getfield 17, 3) := by decide +kernel
theorem d_Mo_clear_25 : decode b_Mo_clear 25 = .ok (.iload_n 1, 1) := by decide +kernel
theorem d_Mo_clear_26 : decode b_Mo_clear 26 = .ok (.iconst 0, 1) := by decide +kernel
theorem d_Mo_clear_27 : decode b_Mo_clear 27 = .ok (.bastore, 1) := by decide +kernel
theorem d_Mo_clear_28 : decode b_Mo_clear 28 = .ok (.iinc 1 1, 3) := by decide +kernel
theorem d_Mo_clear_31 : decode b_Mo_clear 31 = .ok (.goto (-24), 3) := by decide +kernel
theorem d_Mo_clear_34 : decode b_Mo_clear 34 = .ok (.aload_n 0, 1) := by decide +kernel
theorem d_Mo_clear_35 : decode b_Mo_clear 35 = .ok (.bipush 24, 2) := by decide +kernel
theorem d_Mo_clear_37 : decode b_Mo_clear 37 = .ok (.putfield 7, 3) := by decide +kernel
theorem d_Mo_clear_40 : decode b_Mo_clear 40 = .ok (.aload_n 0, 1) := by decide +kernel
theorem d_Mo_clear_41 : decode b_Mo_clear 41 = .ok (.iconst 0, 1) := by decide +kernel
theorem d_Mo_clear_42 : decode b_Mo_clear 42 = .ok (.putfield 124, 3) := by decide +kernel
theorem d_Mo_clear_45 : decode b_Mo_clear 45 = .ok (.aload_n 0, 1) := by decide +kernel
theorem d_Mo_clear_46 : decode b_Mo_clear 46 = .ok (.iconst 0, 1) := by decide +kernel
theorem d_Mo_clear_47 : decode b_Mo_clear 47 = .ok (.putfield 134, 3) := by decide +kernel
theorem d_Mo_clear_50 : decode b_Mo_clear 50 = .ok (.aload_n 0, 1) := by decide +kernel
theorem d_Mo_clear_51 : decode b_Mo_clear 51 = .ok (.iconst 0, 1) := by decide +kernel
theorem d_Mo_clear_52 : decode b_Mo_clear 52 = .ok (.putfield 147, 3) := by decide +kernel
theorem d_Mo_clear_55 : decode b_Mo_clear 55 = .ok (.aload_n 0, 1) := by decide +kernel
theorem d_Mo_clear_56 : decode b_Mo_clear 56 = .ok (.iconst 0, 1) := by decide +kernel
theorem d_Mo_clear_57 : decode b_Mo_clear 57 = .ok (.putfield 166, 3) := by decide +kernel
theorem d_Mo_clear_60 : decode b_Mo_clear 60 = .ok (.aload_n 0, 1) := by decide +kernel
theorem d_Mo_clear_61 : decode b_Mo_clear 61 = .ok (.iconst 0, 1) := by decide +kernel
theorem d_Mo_clear_62 : decode b_Mo_clear 62 = .ok (.putfield 200, 3) := by decide +kernel
theorem d_Mo_clear_65 : decode b_Mo_clear 65 = .ok (.aload_n 0, 1) := by decide +kernel
theorem d_Mo_clear_66 : decode b_Mo_clear 66 = .ok (.iconst 0, 1) := by decide +kernel
theorem d_Mo_clear_67 : decode b_Mo_clear 67 = .ok (.putfield 203, 3) := by decide +kernel
theorem d_Mo_clear_70 : decode b_Mo_clear 70 = .ok (.return_, 1) := by decide +kernel
abbrev b_Arrays_copyOf : ByteArray := prog_20_method_123_code
def y_Arrays_copyOf : MethodName := ⟨"java/util/Arrays", "copyOf", "([II)[I"⟩
theorem d_Arrays_copyOf_0 : decode b_Arrays_copyOf 0 = .ok (.iload_n 1, 1) := by decide +kernel
theorem d_Arrays_copyOf_1 : decode b_Arrays_copyOf 1 = .ok (.aload_n 0, 1) := by decide +kernel
theorem d_Arrays_copyOf_2 : decode b_Arrays_copyOf 2 = .ok (.arraylength, 1) := by decide +kernel
theorem d_Arrays_copyOf_3 : decode b_Arrays_copyOf 3 = .ok (.if_icmp .ne 11, 3) := by decide +kernel
theorem d_Arrays_copyOf_6 : decode b_Arrays_copyOf 6 = .ok (.aload_n 0, 1) := by decide +kernel
theorem d_Arrays_copyOf_7 : decode b_Arrays_copyOf 7 = .ok (.invokevirtual 316, 3) := by decide +kernel
theorem d_Arrays_copyOf_10 : decode b_Arrays_copyOf 10 = .ok (.checkcast 317, 3) := by decide +kernel
theorem d_Arrays_copyOf_13 : decode b_Arrays_copyOf 13 = .ok (.areturn, 1) := by decide +kernel
theorem d_Arrays_copyOf_14 : decode b_Arrays_copyOf 14 = .ok (.iload_n 1, 1) := by decide +kernel
theorem d_Arrays_copyOf_15 : decode b_Arrays_copyOf 15 = .ok (.newarray .int, 2) := by decide +kernel
theorem d_Arrays_copyOf_17 : decode b_Arrays_copyOf 17 = .ok (.astore_n 2, 1) := by decide +kernel
theorem d_Arrays_copyOf_18 : decode b_Arrays_copyOf 18 = .ok (.aload_n 0, 1) := by decide +kernel
theorem d_Arrays_copyOf_19 : decode b_Arrays_copyOf 19 = .ok (.iconst 0, 1) := by decide +kernel
theorem d_Arrays_copyOf_20 : decode b_Arrays_copyOf 20 = .ok (.aload_n 2, 1) := by decide +kernel
theorem d_Arrays_copyOf_21 : decode b_Arrays_copyOf 21 = .ok (.iconst 0, 1) := by decide +kernel
theorem d_Arrays_copyOf_22 : decode b_Arrays_copyOf 22 = .ok (.aload_n 0, 1) := by decide +kernel
theorem d_Arrays_copyOf_23 : decode b_Arrays_copyOf 23 = .ok (.arraylength, 1) := by decide +kernel
theorem d_Arrays_copyOf_24 : decode b_Arrays_copyOf 24 = .ok (.iload_n 1, 1) := by decide +kernel
theorem d_Arrays_copyOf_25 : decode b_Arrays_copyOf 25 = .ok (.invokestatic 304, 3) := by decide +kernel
theorem d_Arrays_copyOf_28 : decode b_Arrays_copyOf 28 = .ok (.invokestatic 150, 3) := by decide +kernel
theorem d_Arrays_copyOf_31 : decode b_Arrays_copyOf 31 = .ok (.aload_n 2, 1) := by decide +kernel
theorem d_Arrays_copyOf_32 : decode b_Arrays_copyOf 32 = .ok (.areturn, 1) := by decide +kernel
