theorem d_Mo_mean_121 : decode b_Mo_mean 121 = .ok (.bipush 24, 2) := by decide +kernel
theorem d_Mo_mean_123 : decode b_Mo_mean 123 = .ok (.iload 7, 2) := by decide +kernel
theorem d_Mo_mean_125 : decode b_Mo_mean 125 = .ok (.imul, 1) := by decide +kernel
theorem d_Mo_mean_126 : decode b_Mo_mean 126 = .ok (.iload 8, 2) := by decide +kernel
theorem d_Mo_mean_128 : decode b_Mo_mean 128 = .ok (.iadd, 1) := by decide +kernel
theorem d_Mo_mean_129 : decode b_Mo_mean 129 = .ok (.iaload, 1) := by decide +kernel
theorem d_Mo_mean_130 : decode b_Mo_mean 130 = .ok (.iload_n 3, 1) := by decide +kernel
theorem d_Mo_mean_131 : decode b_Mo_mean 131 = .ok (.invokestatic 91, 3) := by decide +kernel
theorem d_Mo_mean_134 : decode b_Mo_mean 134 = .ok (.iadd, 1) := by decide +kernel
theorem d_Mo_mean_135 : decode b_Mo_mean 135 = .ok (.istore 5, 2) := by decide +kernel
theorem d_Mo_mean_137 : decode b_Mo_mean 137 = .ok (.iinc 6 1, 3) := by decide +kernel
theorem d_Mo_mean_140 : decode b_Mo_mean 140 = .ok (.iinc 8 1, 3) := by decide +kernel
theorem d_Mo_mean_143 : decode b_Mo_mean 143 = .ok (.goto (-79), 3) := by decide +kernel
theorem d_Mo_mean_146 : decode b_Mo_mean 146 = .ok (.iinc 7 1, 3) := by decide +kernel
theorem d_Mo_mean_149 : decode b_Mo_mean 149 = .ok (.goto (-122), 3) := by decide +kernel
theorem d_Mo_mean_152 : decode b_Mo_mean 152 = .ok (.iload 6, 2) := by decide +kernel
theorem d_Mo_mean_154 : decode b_Mo_mean 154 = .ok (.ifCond .ne 7, 3) := by decide +kernel
theorem d_Mo_mean_157 : decode b_Mo_mean 157 = .ok (.iconst (-1), 1) := by decide +kernel
theorem d_Mo_mean_158 : decode b_Mo_mean 158 = .ok (.goto 15, 3) := by decide +kernel
theorem d_Mo_mean_161 : decode b_Mo_mean 161 = .ok (.iconst 2, 1) := by decide +kernel
theorem d_Mo_mean_162 : decode b_Mo_mean 162 = .ok (.iload 5, 2) := by decide +kernel
theorem d_Mo_mean_164 : decode b_Mo_mean 164 = .ok (.imul, 1) := by decide +kernel
theorem d_Mo_mean_165 : decode b_Mo_mean 165 = .ok (.iload 6, 2) := by decide +kernel
theorem d_Mo_mean_167 : decode b_Mo_mean 167 = .ok (.iadd, 1) := by decide +kernel
theorem d_Mo_mean_168 : decode b_Mo_mean 168 = .ok (.iconst 2, 1) := by decide +kernel
theorem d_Mo_mean_169 : decode b_Mo_mean 169 = .ok (.iload 6, 2) := by decide +kernel
theorem d_Mo_mean_171 : decode b_Mo_mean 171 = .ok (.imul, 1) := by decide +kernel
theorem d_Mo_mean_172 : decode b_Mo_mean 172 = .ok (.idiv, 1) := by decide +kernel
theorem d_Mo_mean_173 : decode b_Mo_mean 173 = .ok (.ireturn, 1) := by decide +kernel
abbrev b_Mo_masked0 : ByteArray := prog_8_method_19_code
def y_Mo_masked0 : MethodName := ⟨"MaskLayersModel", "masked0", "(II)Z"⟩
theorem d_Mo_masked0_0 : decode b_Mo_masked0 0 = .ok (.aload_n 0, 1) := by decide +kernel
theorem d_Mo_masked0_1 : decode b_Mo_masked0 1 = .ok (.getfield 27, 3) := by decide +kernel
theorem d_Mo_masked0_4 : decode b_Mo_masked0 4 = .ok (.iconst 4, 1) := by decide +kernel
theorem d_Mo_masked0_5 : decode b_Mo_masked0 5 = .ok (.aload_n 0, 1) := by decide +kernel
theorem d_Mo_masked0_6 : decode b_Mo_masked0 6 = .ok (.getfield 69, 3) := by decide +kernel
theorem d_Mo_masked0_9 : decode b_Mo_masked0 9 = .ok (.aload_n 0, 1) := by decide +kernel
theorem d_Mo_masked0_10 : decode b_Mo_masked0 10 = .ok (.getfield 107, 3) := by decide +kernel
theorem d_Mo_masked0_13 : decode b_Mo_masked0 13 = .ok (.idiv, 1) := by decide +kernel
theorem d_Mo_masked0_14 : decode b_Mo_masked0 14 = .ok (.imul, 1) := by decide +kernel
theorem d_Mo_masked0_15 : decode b_Mo_masked0 15 = .ok (.iconst 1, 1) := by decide +kernel
theorem d_Mo_masked0_16 : decode b_Mo_masked0 16 = .ok (.iadd, 1) := by decide +kernel
theorem d_Mo_masked0_17 : decode b_Mo_masked0 17 = .ok (.baload, 1) := by decide +kernel
theorem d_Mo_masked0_18 : decode b_Mo_masked0 18 = .ok (.ifCond .eq 26, 3) := by decide +kernel
theorem d_Mo_masked0_21 : decode b_Mo_masked0 21 = .ok (.aload_n 0, 1) := by decide +kernel
theorem d_Mo_masked0_22 : decode b_Mo_masked0 22 = .ok (.getfield 21, 3) := by decide +kernel
theorem d_Mo_masked0_25 : decode b_Mo_masked0 25 = .ok (.sipush 576, 3) := by decide +kernel
theorem d_Mo_masked0_28 : decode b_Mo_masked0 28 = .ok (.bipush 24, 2) := by decide +kernel
theorem d_Mo_masked0_30 : decode b_Mo_masked0 30 = .ok (.iload_n 2, 1) := by decide +kernel
theorem d_Mo_masked0_31 : decode b_Mo_masked0 31 = .ok (.imul, 1) := by decide +kernel
theorem d_Mo_masked0_32 : decode b_Mo_masked0 32 = .ok (.iadd, 1) := by decide +kernel
theorem d_Mo_masked0_33 : decode b_Mo_masked0 33 = .ok (.iload_n 1, 1) := by decide +kernel
theorem d_Mo_masked0_34 : decode b_Mo_masked0 34 = .ok (.iadd, 1) := by decide +kernel
theorem d_Mo_masked0_35 : decode b_Mo_masked0 35 = .ok (.iaload, 1) := by decide +kernel
theorem d_Mo_masked0_36 : decode b_Mo_masked0 36 = .ok (.iconst 1, 1) := by decide +kernel
theorem d_Mo_masked0_37 : decode b_Mo_masked0 37 = .ok (.if_icmp .ne 7, 3) := by decide +kernel
theorem d_Mo_masked0_40 : decode b_Mo_masked0 40 = .ok (.iconst 1, 1) := by decide +kernel
theorem d_Mo_masked0_41 : decode b_Mo_masked0 41 = .ok (.goto 4, 3) := by decide +kernel
theorem d_Mo_masked0_44 : decode b_Mo_masked0 44 = .ok (.iconst 0, 1) := by decide +kernel
theorem d_Mo_masked0_45 : decode b_Mo_masked0 45 = .ok (.ireturn, 1) := by decide +kernel
abbrev b_Mo_joinedAt : ByteArray := prog_8_method_18_code
def y_Mo_joinedAt : MethodName := ⟨"MaskLayersModel", "joinedAt", "(II)I"⟩
theorem d_Mo_joinedAt_0 : decode b_Mo_joinedAt 0 = .ok (.aload_n 0, 1) := by decide +kernel
theorem d_Mo_joinedAt_1 : decode b_Mo_joinedAt 1 = .ok (.getfield 21, 3) := by decide +kernel
theorem d_Mo_joinedAt_4 : decode b_Mo_joinedAt 4 = .ok (.aload_n 0, 1) := by decide +kernel
theorem d_Mo_joinedAt_5 : decode b_Mo_joinedAt 5 = .ok (.aload_n 0, 1) := by decide +kernel
theorem d_Mo_joinedAt_6 : decode b_Mo_joinedAt 6 = .ok (.iload_n 1, 1) := by decide +kernel
theorem d_Mo_joinedAt_7 : decode b_Mo_joinedAt 7 = .ok (.iload_n 2, 1) := by decide +kernel
theorem d_Mo_joinedAt_8 : decode b_Mo_joinedAt 8 = .ok (.invokevirtual 101, 3) := by decide +kernel
theorem d_Mo_joinedAt_11 : decode b_Mo_joinedAt 11 = .ok (.ifCond .eq 7, 3) := by decide +kernel
theorem d_Mo_joinedAt_14 : decode b_Mo_joinedAt 14 = .ok (.iconst 2, 1) := by decide +kernel
theorem d_Mo_joinedAt_15 : decode b_Mo_joinedAt 15 = .ok (.goto 4, 3) := by decide +kernel
theorem d_Mo_joinedAt_18 : decode b_Mo_joinedAt 18 = .ok (.iconst 0, 1) := by decide +kernel
theorem d_Mo_joinedAt_19 : decode b_Mo_joinedAt 19 = .ok (.iload_n 1, 1) := by decide +kernel
theorem d_Mo_joinedAt_20 : decode b_Mo_joinedAt 20 = .ok (.iload_n 2, 1) := by decide +kernel
theorem d_Mo_joinedAt_21 : decode b_Mo_joinedAt 21 = .ok (.invokevirtual 104, 3) := by decide +kernel
theorem d_Mo_joinedAt_24 : decode b_Mo_joinedAt 24 = .ok (.iaload, 1) := by decide +kernel
theorem d_Mo_joinedAt_25 : decode b_Mo_joinedAt 25 = .ok (.ireturn, 1) := by decide +kernel
abbrev b_Mo_same : ByteArray := prog_8_method_31_code
def y_Mo_same : MethodName := ⟨"MaskLayersModel", "same", "(II)I"⟩
theorem d_Mo_same_0 : decode b_Mo_same 0 = .ok (.iconst 1, 1) := by decide +kernel
theorem d_Mo_same_1 : decode b_Mo_same 1 = .ok (.istore_n 3, 1) := by decide +kernel
theorem d_Mo_same_2 : decode b_Mo_same 2 = .ok (.iload_n 3, 1) := by decide +kernel
theorem d_Mo_same_3 : decode b_Mo_same 3 = .ok (.sipush 255, 3) := by decide +kernel
theorem d_Mo_same_6 : decode b_Mo_same 6 = .ok (.if_icmp .ge 47, 3) := by decide +kernel
theorem d_Mo_same_9 : decode b_Mo_same 9 = .ok (.iload_n 2, 1) := by decide +kernel
theorem d_Mo_same_10 : decode b_Mo_same 10 = .ok (.iload_n 3, 1) := by decide +kernel
theorem d_Mo_same_11 : decode b_Mo_same 11 = .ok (.iadd, 1) := by decide +kernel
theorem d_Mo_same_12 : decode b_Mo_same 12 = .ok (.aload_n 0, 1) := by decide +kernel
theorem d_Mo_same_13 : decode b_Mo_same 13 = .ok (.iload_n 1, 1) := by decide +kernel
theorem d_Mo_same_14 : decode b_Mo_same 14 = .ok (.invokevirtual 94, 3) := by decide +kernel
theorem d_Mo_same_17 : decode b_Mo_same 17 = .ok (.if_icmp .ge 36, 3) := by decide +kernel
theorem d_Mo_same_20 : decode b_Mo_same 20 = .ok (.aload_n 0, 1) := by decide +kernel
theorem d_Mo_same_21 : decode b_Mo_same 21 = .ok (.getfield 21, 3) := by decide +kernel
theorem d_Mo_same_24 : decode b_Mo_same 24 = .ok (.aload_n 0, 1) := by decide +kernel
theorem d_Mo_same_25 : decode b_Mo_same 25 = .ok (.iload_n 1, 1) := by decide +kernel
theorem d_Mo_same_26 : decode b_Mo_same 26 = .ok (.iload_n 2, 1) := by decide +kernel
theorem d_Mo_same_27 : decode b_Mo_same 27 = .ok (.iload_n 3, 1) := by decide +kernel
theorem d_Mo_same_28 : decode b_Mo_same 28 = .ok (.iadd, 1) := by decide +kernel
theorem d_Mo_same_29 : decode b_Mo_same 29 = .ok (.invokevirtual 88, 3) := by decide +kernel
theorem d_Mo_same_32 : decode b_Mo_same 32 = .ok (.iaload, 1) := by decide +kernel
theorem d_Mo_same_33 : decode b_Mo_same 33 = .ok (.aload_n 0, 1) := by decide +kernel
theorem d_Mo_same_34 : decode b_Mo_same 34 = .ok (.getfield 21, 3) := by decide +kernel
theorem d_Mo_same_37 : decode b_Mo_same 37 = .ok (.aload_n 0, 1) := by decide +kernel
theorem d_Mo_same_38 : decode b_Mo_same 38 = .ok (.iload_n 1, 1) := by decide +kernel
theorem d_Mo_same_39 : decode b_Mo_same 39 = .ok (.iload_n 2, 1) := by decide +kernel
theorem d_Mo_same_40 : decode b_Mo_same 40 = .ok (.invokevirtual 88, 3) := by decide +kernel
theorem d_Mo_same_43 : decode b_Mo_same 43 = .ok (.iaload, 1) := by decide +kernel
theorem d_Mo_same_44 : decode b_Mo_same 44 = .ok (.if_icmp .ne 9, 3) := by decide +kernel
theorem d_Mo_same_47 : decode b_Mo_same 47 = .ok (.iinc 3 1, 3) := by decide +kernel
theorem d_Mo_same_50 : decode b_Mo_same 50 = .ok (.goto (-48), 3) := by decide +kernel
theorem d_Mo_same_53 : decode b_Mo_same 53 = .ok (.iload_n 3, 1) := by decide +kernel
theorem d_Mo_same_54 : decode b_Mo_same 54 = .ok (.ireturn, 1) := by decide +kernel
abbrev b_Mo_plainSize : ByteArray := prog_8_method_32_code
def y_Mo_plainSize : MethodName := ⟨"MaskLayersModel", "plainSize", "(I)I"⟩
theorem d_Mo_plainSize_0 : decode b_Mo_plainSize 0 = .ok (.iload_n 1, 1) := by decide +kernel
theorem d_Mo_plainSize_1 : decode b_Mo_plainSize 1 = .ok (.iconst 1, 1) := by decide +kernel
theorem d_Mo_plainSize_2 : decode b_Mo_plainSize 2 = .ok (.if_icmp .ne 17, 3) := by decide +kernel
theorem d_Mo_plainSize_5 : decode b_Mo_plainSize 5 = .ok (.aload_n 0, 1) := by decide +kernel
theorem d_Mo_plainSize_6 : decode b_Mo_plainSize 6 = .ok (.iload_n 1, 1) := by decide +kernel
theorem d_Mo_plainSize_7 : decode b_Mo_plainSize 7 = .ok (.invokevirtual 94, 3) := by decide +kernel
theorem d_Mo_plainSize_10 : decode b_Mo_plainSize 10 = .ok (.bipush 7, 2) := by decide +kernel
theorem d_Mo_plainSize_12 : decode b_Mo_plainSize 12 = .ok (.iadd, 1) := by decide +kernel
theorem d_Mo_plainSize_13 : decode b_Mo_plainSize 13 = .ok (.bipush 8, 2) := by decide +kernel
theorem d_Mo_plainSize_15 : decode b_Mo_plainSize 15 = .ok (.idiv, 1) := by decide +kernel
theorem d_Mo_plainSize_16 : decode b_Mo_plainSize 16 = .ok (.goto 10, 3) := by decide +kernel
theorem d_Mo_plainSize_19 : decode b_Mo_plainSize 19 = .ok (.iconst 3, 1) := by decide +kernel
theorem d_Mo_plainSize_20 : decode b_Mo_plainSize 20 = .ok (.aload_n 0, 1) := by decide +kernel
theorem d_Mo_plainSize_21 : decode b_Mo_plainSize 21 = .ok (.iload_n 1, 1) := by decide +kernel
theorem d_Mo_plainSize_22 : decode b_Mo_plainSize 22 = .ok (.invokevirtual 94, 3) := by decide +kernel
theorem d_Mo_plainSize_25 : decode b_Mo_plainSize 25 = .ok (.imul, 1) := by decide +kernel
theorem d_Mo_plainSize_26 : decode b_Mo_plainSize 26 = .ok (.ireturn, 1) := by decide +kernel
abbrev b_Mo_refusal : ByteArray := prog_8_method_25_code
def y_Mo_refusal : MethodName := ⟨"MaskLayersModel", "refusal", "(II)I"⟩
theorem d_Mo_refusal_0 : decode b_Mo_refusal 0 = .ok (.aload_n 0, 1) := by decide +kernel
theorem d_Mo_refusal_1 : decode b_Mo_refusal 1 = .ok (.getfield 124, 3) := by decide +kernel
theorem d_Mo_refusal_4 : decode b_Mo_refusal 4 = .ok (.ifCond .ne 7, 3) := by decide +kernel
theorem d_Mo_refusal_7 : decode b_Mo_refusal 7 = .ok (.iconst 1, 1) := by decide +kernel
theorem d_Mo_refusal_8 : decode b_Mo_refusal 8 = .ok (.goto 17, 3) := by decide +kernel
theorem d_Mo_refusal_11 : decode b_Mo_refusal 11 = .ok (.aload_n 0, 1) := by decide +kernel
theorem d_Mo_refusal_12 : decode b_Mo_refusal 12 = .ok (.iload_n 1, 1) := by decide +kernel
theorem d_Mo_refusal_13 : decode b_Mo_refusal 13 = .ok (.iload_n 2, 1) := by decide +kernel
theorem d_Mo_refusal_14 : decode b_Mo_refusal 14 = .ok (.invokevirtual 54, 3) := by decide +kernel
theorem d_Mo_refusal_17 : decode b_Mo_refusal 17 = .ok (.ifCond .ne 7, 3) := by decide +kernel
theorem d_Mo_refusal_20 : decode b_Mo_refusal 20 = .ok (.iconst 2, 1) := by decide +kernel
theorem d_Mo_refusal_21 : decode b_Mo_refusal 21 = .ok (.goto 4, 3) := by decide +kernel
theorem d_Mo_refusal_24 : decode b_Mo_refusal 24 = .ok (.iconst 0, 1) := by decide +kernel
theorem d_Mo_refusal_25 : decode b_Mo_refusal 25 = .ok (.ireturn, 1) := by decide +kernel
abbrev b_Mo_lay : ByteArray := prog_8_method_9_code
def y_Mo_lay : MethodName := ⟨"MaskLayersModel", "lay", "(IIII)V"⟩
theorem d_Mo_lay_0 : decode b_Mo_lay 0 = .ok (.aload_n 0, 1) := by decide +kernel
theorem d_Mo_lay_1 : decode b_Mo_lay 1 = .ok (.iload_n 1, 1) := by decide +kernel
theorem d_Mo_lay_2 : decode b_Mo_lay 2 = .ok (.putfield 66, 3) := by decide +kernel
theorem d_Mo_lay_5 : decode b_Mo_lay 5 = .ok (.aload_n 0, 1) := by decide +kernel
theorem d_Mo_lay_6 : decode b_Mo_lay 6 = .ok (.iload_n 3, 1) := by decide +kernel
theorem d_Mo_lay_7 : decode b_Mo_lay 7 = .ok (.iload 4, 2) := by decide +kernel
theorem d_Mo_lay_9 : decode b_Mo_lay 9 = .ok (.imul, 1) := by decide +kernel
theorem d_Mo_lay_10 : decode b_Mo_lay 10 = .ok (.putfield 69, 3) := by decide +kernel
theorem d_Mo_lay_13 : decode b_Mo_lay 13 = .ok (.aload_n 0, 1) := by decide +kernel
theorem d_Mo_lay_14 : decode b_Mo_lay 14 = .ok (.iload_n 2, 1) := by decide +kernel
theorem d_Mo_lay_15 : decode b_Mo_lay 15 = .ok (.aload_n 0, 1) := by decide +kernel
theorem d_Mo_lay_16 : decode b_Mo_lay 16 = .ok (.getfield 69, 3) := by decide +kernel
theorem d_Mo_lay_19 : decode b_Mo_lay 19 = .ok (.isub, 1) := by decide +kernel
theorem d_Mo_lay_20 : decode b_Mo_lay 20 = .ok (.iload_n 3, 1) := by decide +kernel
theorem d_Mo_lay_21 : decode b_Mo_lay 21 = .ok (.if_icmp .ge 12, 3) := by decide +kernel
theorem d_Mo_lay_24 : decode b_Mo_lay 24 = .ok (.iload_n 2, 1) := by decide +kernel
theorem d_Mo_lay_25 : decode b_Mo_lay 25 = .ok (.aload_n 0, 1) := by decide +kernel
theorem d_Mo_lay_26 : decode b_Mo_lay 26 = .ok (.getfield 69, 3) := by decide +kernel
theorem d_Mo_lay_29 : decode b_Mo_lay 29 = .ok (.isub, 1) := by decide +kernel
theorem d_Mo_lay_30 : decode b_Mo_lay 30 = .ok (.goto 4, 3) := by decide +kernel
theorem d_Mo_lay_33 : decode b_Mo_lay 33 = .ok (.iload_n 3, 1) := by decide +kernel
theorem d_Mo_lay_34 : decode b_Mo_lay 34 = .ok (.putfield 72, 3) := by decide +kernel
theorem d_Mo_lay_37 : decode b_Mo_lay 37 = .ok (.return_, 1) := by decide +kernel
abbrev b_Mo_put : ByteArray := prog_8_method_5_code
def y_Mo_put : MethodName := ⟨"MaskLayersModel", "put", "(IIII)I"⟩
theorem d_Mo_put_0 : decode b_Mo_put 0 = .ok (.aload_n 0, 1) := by decide +kernel
theorem d_Mo_put_1 : decode b_Mo_put 1 = .ok (.aload_n 0, 1) := by decide +kernel
theorem d_Mo_put_2 : decode b_Mo_put 2 = .ok (.iload_n 1, 1) := by decide +kernel
theorem d_Mo_put_3 : decode b_Mo_put 3 = .ok (.iload_n 2, 1) := by decide +kernel
theorem d_Mo_put_4 : decode b_Mo_put 4 = .ok (.invokevirtual 54, 3) := by decide +kernel
theorem d_Mo_put_7 : decode b_Mo_put 7 = .ok (.ifCond .ne 7, 3) := by decide +kernel
theorem d_Mo_put_10 : decode b_Mo_put 10 = .ok (.iconst 1, 1) := by decide +kernel
theorem d_Mo_put_11 : decode b_Mo_put 11 = .ok (.goto 25, 3) := by decide +kernel
theorem d_Mo_put_14 : decode b_Mo_put 14 = .ok (.iload_n 3, 1) := by decide +kernel
theorem d_Mo_put_15 : decode b_Mo_put 15 = .ok (.iconst 1, 1) := by decide +kernel
theorem d_Mo_put_16 : decode b_Mo_put 16 = .ok (.if_icmp .lt 15, 3) := by decide +kernel
theorem d_Mo_put_19 : decode b_Mo_put 19 = .ok (.iload 4, 2) := by decide +kernel
theorem d_Mo_put_21 : decode b_Mo_put 21 = .ok (.ifCond .lt 10, 3) := by decide +kernel
theorem d_Mo_put_24 : decode b_Mo_put 24 = .ok (.iload 4, 2) := by decide +kernel
theorem d_Mo_put_26 : decode b_Mo_put 26 = .ok (.ldc 58, 2) := by decide +kernel
theorem d_Mo_put_28 : decode b_Mo_put 28 = .ok (.if_icmp .le 7, 3) := by decide +kernel
theorem d_Mo_put_31 : decode b_Mo_put 31 = .ok (.iconst 2, 1) := by decide +kernel
theorem d_Mo_put_32 : decode b_Mo_put 32 = .ok (.goto 4, 3) := by decide +kernel
theorem d_Mo_put_35 : decode b_Mo_put 35 = .ok (.iconst 0, 1) := by decide +kernel
theorem d_Mo_put_36 : decode b_Mo_put 36 = .ok (.putfield 51, 3) := by decide +kernel
theorem d_Mo_put_39 : decode b_Mo_put 39 = .ok (.aload_n 0, 1) := by decide +kernel
theorem d_Mo_put_40 : decode b_Mo_put 40 = .ok (.getfield 51, 3) := by decide +kernel
theorem d_Mo_put_43 : decode b_Mo_put 43 = .ok (.ifCond .le 5, 3) := by decide +kernel
theorem d_Mo_put_46 : decode b_Mo_put 46 = .ok (.iconst 0, 1) := by decide +kernel
theorem d_Mo_put_47 : decode b_Mo_put 47 = .ok (.ireturn, 1) := by decide +kernel
theorem d_Mo_put_48 : decode b_Mo_put 48 = .ok (.iconst 0, 1) := by decide +kernel
theorem d_Mo_put_49 : decode b_Mo_put 49 = .ok (.istore 5, 2) := by decide +kernel
theorem d_Mo_put_51 : decode b_Mo_put 51 = .ok (.iload_n 1, 1) := by decide +kernel
theorem d_Mo_put_52 : decode b_Mo_put 52 = .ok (.istore 6, 2) := by decide +kernel
theorem d_Mo_put_54 : decode b_Mo_put 54 = .ok (.iload 6, 2) := by decide +kernel
theorem d_Mo_put_56 : decode b_Mo_put 56 = .ok (.aload_n 0, 1) := by decide +kernel
theorem d_Mo_put_57 : decode b_Mo_put 57 = .ok (.iload_n 1, 1) := by decide +kernel
theorem d_Mo_put_58 : decode b_Mo_put 58 = .ok (.iload_n 3, 1) := by decide +kernel
theorem d_Mo_put_59 : decode b_Mo_put 59 = .ok (.invokevirtual 59, 3) := by decide +kernel
theorem d_Mo_put_62 : decode b_Mo_put 62 = .ok (.if_icmp .ge 50, 3) := by decide +kernel
theorem d_Mo_put_65 : decode b_Mo_put 65 = .ok (.iload 5, 2) := by decide +kernel
theorem d_Mo_put_67 : decode b_Mo_put 67 = .ok (.aload_n 0, 1) := by decide +kernel
theorem d_Mo_put_68 : decode b_Mo_put 68 = .ok (.getfield 13, 3) := by decide +kernel
theorem d_Mo_put_71 : decode b_Mo_put 71 = .ok (.bipush 24, 2) := by decide +kernel
theorem d_Mo_put_73 : decode b_Mo_put 73 = .ok (.iload_n 2, 1) := by decide +kernel
theorem d_Mo_put_74 : decode b_Mo_put 74 = .ok (.imul, 1) := by decide +kernel
theorem d_Mo_put_75 : decode b_Mo_put 75 = .ok (.iload 6, 2) := by decide +kernel
theorem d_Mo_put_77 : decode b_Mo_put 77 = .ok (.iadd, 1) := by decide +kernel
theorem d_Mo_put_78 : decode b_Mo_put 78 = .ok (.iaload, 1) := by decide +kernel
theorem d_Mo_put_79 : decode b_Mo_put 79 = .ok (.iload 4, 2) := by decide +kernel
theorem d_Mo_put_81 : decode b_Mo_put 81 = .ok (.if_icmp .eq 7, 3) := by decide +kernel
theorem d_Mo_put_84 : decode b_Mo_put 84 = .ok (.iconst 1, 1) := by decide +kernel
theorem d_Mo_put_85 : decode b_Mo_put 85 = .ok (.goto 4, 3) := by decide +kernel
theorem d_Mo_put_88 : decode b_Mo_put 88 = .ok (.iconst 0, 1) := by decide +kernel
theorem d_Mo_put_89 : decode b_Mo_put 89 = .ok (.iadd, 1) := by decide +kernel
theorem d_Mo_put_90 : decode b_Mo_put 90 = .ok (.istore 5, 2) := by decide +kernel
theorem d_Mo_put_92 : decode b_Mo_put 92 = .ok (.aload_n 0, 1) := by decide +kernel
theorem d_Mo_put_93 : decode b_Mo_put 93 = .ok (.getfield 13, 3) := by decide +kernel
theorem d_Mo_put_96 : decode b_Mo_put 96 = .ok (.bipush 24, 2) := by decide +kernel
theorem d_Mo_put_98 : decode b_Mo_put 98 = .ok (.iload_n 2, 1) := by decide +kernel
theorem d_Mo_put_99 : decode b_Mo_put 99 = .ok (.imul, 1) := by decide +kernel
theorem d_Mo_put_100 : decode b_Mo_put 100 = .ok (.iload 6, 2) := by decide +kernel
theorem d_Mo_put_102 : decode b_Mo_put 102 = .ok (.iadd, 1) := by decide +kernel
theorem d_Mo_put_103 : decode b_Mo_put 103 = .ok (.iload 4, 2) := by decide +kernel
theorem d_Mo_put_105 : decode b_Mo_put 105 = .ok (.iastore, 1) := by decide +kernel
theorem d_Mo_put_106 : decode b_Mo_put 106 = .ok (.iinc 6 1, 3) := by decide +kernel
theorem d_Mo_put_109 : decode b_Mo_put 109 = .ok (.goto (-55), 3) := by decide +kernel
theorem d_Mo_put_112 : decode b_Mo_put 112 = .ok (.iload 5, 2) := by decide +kernel
theorem d_Mo_put_114 : decode b_Mo_put 114 = .ok (.ireturn, 1) := by decide +kernel
abbrev b_Mo_mask : ByteArray := prog_8_method_6_code
def y_Mo_mask : MethodName := ⟨"MaskLayersModel", "mask", "(IIIZ)I"⟩
theorem d_Mo_mask_0 : decode b_Mo_mask 0 = .ok (.aload_n 0, 1) := by decide +kernel
theorem d_Mo_mask_1 : decode b_Mo_mask 1 = .ok (.aload_n 0, 1) := by decide +kernel
theorem d_Mo_mask_2 : decode b_Mo_mask 2 = .ok (.iload_n 1, 1) := by decide +kernel
theorem d_Mo_mask_3 : decode b_Mo_mask 3 = .ok (.iload_n 2, 1) := by decide +kernel
theorem d_Mo_mask_4 : decode b_Mo_mask 4 = .ok (.invokevirtual 54, 3) := by decide +kernel
theorem d_Mo_mask_7 : decode b_Mo_mask 7 = .ok (.ifCond .ne 7, 3) := by decide +kernel
theorem d_Mo_mask_10 : decode b_Mo_mask 10 = .ok (.iconst 1, 1) := by decide +kernel
theorem d_Mo_mask_11 : decode b_Mo_mask 11 = .ok (.goto 13, 3) := by decide +kernel
theorem d_Mo_mask_14 : decode b_Mo_mask 14 = .ok (.iload_n 3, 1) := by decide +kernel
theorem d_Mo_mask_15 : decode b_Mo_mask 15 = .ok (.iconst 1, 1) := by decide +kernel
theorem d_Mo_mask_16 : decode b_Mo_mask 16 = .ok (.if_icmp .ge 7, 3) := by decide +kernel
theorem d_Mo_mask_19 : decode b_Mo_mask 19 = .ok (.iconst 2, 1) := by decide +kernel
theorem d_Mo_mask_20 : decode b_Mo_mask 20 = .ok (.goto 4, 3) := by decide +kernel
theorem d_Mo_mask_23 : decode b_Mo_mask 23 = .ok (.iconst 0, 1) := by decide +kernel
theorem d_Mo_mask_24 : decode b_Mo_mask 24 = .ok (.putfield 51, 3) := by decide +kernel
theorem d_Mo_mask_27 : decode b_Mo_mask 27 = .ok (.aload_n 0, 1) := by decide +kernel
theorem d_Mo_mask_28 : decode b_Mo_mask 28 = .ok (.getfield 51, 3) := by decide +kernel
theorem d_Mo_mask_31 : decode b_Mo_mask 31 = .ok (.ifCond .le 5, 3) := by decide +kernel
theorem d_Mo_mask_34 : decode b_Mo_mask 34 = .ok (.iconst 0, 1) := by decide +kernel
theorem d_Mo_mask_35 : decode b_Mo_mask 35 = .ok (.ireturn, 1) := by decide +kernel
theorem d_Mo_mask_36 : decode b_Mo_mask 36 = .ok (.iconst 0, 1) := by decide +kernel
theorem d_Mo_mask_37 : decode b_Mo_mask 37 = .ok (.istore 5, 2) := by decide +kernel
theorem d_Mo_mask_39 : decode b_Mo_mask 39 = .ok (.iload_n 1, 1) := by decide +kernel
theorem d_Mo_mask_40 : decode b_Mo_mask 40 = .ok (.istore 6, 2) := by decide +kernel
theorem d_Mo_mask_42 : decode b_Mo_mask 42 = .ok (.iload 6, 2) := by decide +kernel
theorem d_Mo_mask_44 : decode b_Mo_mask 44 = .ok (.aload_n 0, 1) := by decide +kernel
theorem d_Mo_mask_45 : decode b_Mo_mask 45 = .ok (.iload_n 1, 1) := by decide +kernel
theorem d_Mo_mask_46 : decode b_Mo_mask 46 = .ok (.iload_n 3, 1) := by decide +kernel
theorem d_Mo_mask_47 : decode b_Mo_mask 47 = .ok (.invokevirtual 59, 3) := by decide +kernel
theorem d_Mo_mask_50 : decode b_Mo_mask 50 = .ok (.if_icmp .ge 50, 3) := by decide +kernel
theorem d_Mo_mask_53 : decode b_Mo_mask 53 = .ok (.iload 5, 2) := by decide +kernel
theorem d_Mo_mask_55 : decode b_Mo_mask 55 = .ok (.aload_n 0, 1) := by decide +kernel
theorem d_Mo_mask_56 : decode b_Mo_mask 56 = .ok (.getfield 17, 3) := by decide +kernel
theorem d_Mo_mask_59 : decode b_Mo_mask 59 = .ok (.bipush 24, 2) := by decide +kernel
theorem d_Mo_mask_61 : decode b_Mo_mask 61 = .ok (.iload_n 2, 1) := by decide +kernel
theorem d_Mo_mask_62 : decode b_Mo_mask 62 = .ok (.imul, 1) := by decide +kernel
theorem d_Mo_mask_63 : decode b_Mo_mask 63 = .ok (.iload 6, 2) := by decide +kernel
theorem d_Mo_mask_65 : decode b_Mo_mask 65 = .ok (.iadd, 1) := by decide +kernel
theorem d_Mo_mask_66 : decode b_Mo_mask 66 = .ok (.baload, 1) := by decide +kernel
theorem d_Mo_mask_67 : decode b_Mo_mask 67 = .ok (.iload 4, 2) := by decide +kernel
theorem d_Mo_mask_69 : decode b_Mo_mask 69 = .ok (.if_icmp .eq 7, 3) := by decide +kernel
theorem d_Mo_mask_72 : decode b_Mo_mask 72 = .ok (.iconst 1, 1) := by decide +kernel
theorem d_Mo_mask_73 : decode b_Mo_mask 73 = .ok (.goto 4, 3) := by decide +kernel
theorem d_Mo_mask_76 : decode b_Mo_mask 76 = .ok (.iconst 0, 1) := by decide +kernel
theorem d_Mo_mask_77 : decode b_Mo_mask 77 = .ok (.iadd, 1) := by decide +kernel
theorem d_Mo_mask_78 : decode b_Mo_mask 78 = .ok (.istore 5, 2) := by decide +kernel
theorem d_Mo_mask_80 : decode b_Mo_mask 80 = .ok (.aload_n 0, 1) := by decide +kernel
theorem d_Mo_mask_81 : decode b_Mo_mask 81 = .ok (.getfield 17, 3) := by decide +kernel
theorem d_Mo_mask_84 : decode b_Mo_mask 84 = .ok (.bipush 24, 2) := by decide +kernel
theorem d_Mo_mask_86 : decode b_Mo_mask 86 = .ok (.iload_n 2, 1) := by decide +kernel
theorem d_Mo_mask_87 : decode b_Mo_mask 87 = .ok (.imul, 1) := by decide +kernel
theorem d_Mo_mask_88 : decode b_Mo_mask 88 = .ok (.iload 6, 2) := by decide +kernel
theorem d_Mo_mask_90 : decode b_Mo_mask 90 = .ok (.iadd, 1) := by decide +kernel
theorem d_Mo_mask_91 : decode b_Mo_mask 91 = .ok (.iload 4, 2) := by decide +kernel
theorem d_Mo_mask_93 : decode b_Mo_mask 93 = .ok (.bastore, 1) := by decide +kernel
theorem d_Mo_mask_94 : decode b_Mo_mask 94 = .ok (.iinc 6 1, 3) := by decide +kernel
theorem d_Mo_mask_97 : decode b_Mo_mask 97 = .ok (.goto (-55), 3) := by decide +kernel
theorem d_Mo_mask_100 : decode b_Mo_mask 100 = .ok (.iload 5, 2) := by decide +kernel
theorem d_Mo_mask_102 : decode b_Mo_mask 102 = .ok (.ireturn, 1) := by decide +kernel
abbrev b_Mo_stripe : ByteArray := prog_8_method_8_code
def y_Mo_stripe : MethodName := ⟨"MaskLayersModel", "stripe", "(I)I"⟩
theorem d_Mo_stripe_0 : decode b_Mo_stripe 0 = .ok (.aload_n 0, 1) := by decide +kernel
theorem d_Mo_stripe_1 : decode b_Mo_stripe 1 = .ok (.iload_n 1, 1) := by decide +kernel
theorem d_Mo_stripe_2 : decode b_Mo_stripe 2 = .ok (.iconst 1, 1) := by decide +kernel
theorem d_Mo_stripe_3 : decode b_Mo_stripe 3 = .ok (.if_icmp .lt 9, 3) := by decide +kernel
theorem d_Mo_stripe_6 : decode b_Mo_stripe 6 = .ok (.iload_n 1, 1) := by decide +kernel
theorem d_Mo_stripe_7 : decode b_Mo_stripe 7 = .ok (.bipush 24, 2) := by decide +kernel
theorem d_Mo_stripe_9 : decode b_Mo_stripe 9 = .ok (.if_icmp .le 7, 3) := by decide +kernel
theorem d_Mo_stripe_12 : decode b_Mo_stripe 12 = .ok (.iconst 1, 1) := by decide +kernel
theorem d_Mo_stripe_13 : decode b_Mo_stripe 13 = .ok (.goto 4, 3) := by decide +kernel
theorem d_Mo_stripe_16 : decode b_Mo_stripe 16 = .ok (.iconst 0, 1) := by decide +kernel
theorem d_Mo_stripe_17 : decode b_Mo_stripe 17 = .ok (.putfield 51, 3) := by decide +kernel
theorem d_Mo_stripe_20 : decode b_Mo_stripe 20 = .ok (.aload_n 0, 1) := by decide +kernel
theorem d_Mo_stripe_21 : decode b_Mo_stripe 21 = .ok (.getfield 51, 3) := by decide +kernel
theorem d_Mo_stripe_24 : decode b_Mo_stripe 24 = .ok (.ifCond .le 5, 3) := by decide +kernel
theorem d_Mo_stripe_27 : decode b_Mo_stripe 27 = .ok (.iconst 0, 1) := by decide +kernel
theorem d_Mo_stripe_28 : decode b_Mo_stripe 28 = .ok (.ireturn, 1) := by decide +kernel
theorem d_Mo_stripe_29 : decode b_Mo_stripe 29 = .ok (.aload_n 0, 1) := by decide +kernel
theorem d_Mo_stripe_30 : decode b_Mo_stripe 30 = .ok (.iload_n 1, 1) := by decide +kernel
theorem d_Mo_stripe_31 : decode b_Mo_stripe 31 = .ok (.putfield 7, 3) := by decide +kernel
theorem d_Mo_stripe_34 : decode b_Mo_stripe 34 = .ok (.aload_n 0, 1) := by decide +kernel
theorem d_Mo_stripe_35 : decode b_Mo_stripe 35 = .ok (.getfield 48, 3) := by decide +kernel
theorem d_Mo_stripe_38 : decode b_Mo_stripe 38 = .ok (.aload_n 0, 1) := by decide +kernel
theorem d_Mo_stripe_39 : decode b_Mo_stripe 39 = .ok (.getfield 7, 3) := by decide +kernel
theorem d_Mo_stripe_42 : decode b_Mo_stripe 42 = .ok (.invokestatic 63, 3) := by decide +kernel
theorem d_Mo_stripe_45 : decode b_Mo_stripe 45 = .ok (.ireturn, 1) := by decide +kernel
abbrev b_Mo_makeBlocks : ByteArray := prog_8_method_17_code
def y_Mo_makeBlocks : MethodName := ⟨"MaskLayersModel", "makeBlocks", "(I)V"⟩
theorem d_Mo_makeBlocks_0 : decode b_Mo_makeBlocks 0 = .ok (.aload_n 0, 1) := by decide +kernel
theorem d_Mo_makeBlocks_1 : decode b_Mo_makeBlocks 1 = .ok (.iload_n 1, 1) := by decide +kernel
theorem d_Mo_makeBlocks_2 : decode b_Mo_makeBlocks 2 = .ok (.invokevirtual 94, 3) := by decide +kernel
theorem d_Mo_makeBlocks_5 : decode b_Mo_makeBlocks 5 = .ok (.istore_n 2, 1) := by decide +kernel
theorem d_Mo_makeBlocks_6 : decode b_Mo_makeBlocks 6 = .ok (.iconst (-1), 1) := by decide +kernel
theorem d_Mo_makeBlocks_7 : decode b_Mo_makeBlocks 7 = .ok (.istore_n 3, 1) := by decide +kernel
theorem d_Mo_makeBlocks_8 : decode b_Mo_makeBlocks 8 = .ok (.iconst 0, 1) := by decide +kernel
theorem d_Mo_makeBlocks_9 : decode b_Mo_makeBlocks 9 = .ok (.istore 4, 2) := by decide +kernel
theorem d_Mo_makeBlocks_11 : decode b_Mo_makeBlocks 11 = .ok (.iload 4, 2) := by decide +kernel
theorem d_Mo_makeBlocks_13 : decode b_Mo_makeBlocks 13 = .ok (.iload_n 2, 1) := by decide +kernel
theorem d_Mo_makeBlocks_14 : decode b_Mo_makeBlocks 14 = .ok (.if_icmp .ge 120, 3) := by decide +kernel
theorem d_Mo_makeBlocks_17 : decode b_Mo_makeBlocks 17 = .ok (.aload_n 0, 1) := by decide +kernel
theorem d_Mo_makeBlocks_18 : decode b_Mo_makeBlocks 18 = .ok (.iload_n 1, 1) := by decide +kernel
theorem d_Mo_makeBlocks_19 : decode b_Mo_makeBlocks 19 = .ok (.iload 4, 2) := by decide +kernel
theorem d_Mo_makeBlocks_21 : decode b_Mo_makeBlocks 21 = .ok (.invokevirtual 88, 3) := by decide +kernel
theorem d_Mo_makeBlocks_24 : decode b_Mo_makeBlocks 24 = .ok (.istore 5, 2) := by decide +kernel
theorem d_Mo_makeBlocks_26 : decode b_Mo_makeBlocks 26 = .ok (.aload_n 0, 1) := by decide +kernel
theorem d_Mo_makeBlocks_27 : decode b_Mo_makeBlocks 27 = .ok (.getfield 24, 3) := by decide +kernel
theorem d_Mo_makeBlocks_30 : decode b_Mo_makeBlocks 30 = .ok (.iload 5, 2) := by decide +kernel
theorem d_Mo_makeBlocks_32 : decode b_Mo_makeBlocks 32 = .ok (.aload_n 0, 1) := by decide +kernel
theorem d_Mo_makeBlocks_33 : decode b_Mo_makeBlocks 33 = .ok (.iload_n 1, 1) := by decide +kernel
theorem d_Mo_makeBlocks_34 : decode b_Mo_makeBlocks 34 = .ok (.iload 4, 2) := by decide +kernel
theorem d_Mo_makeBlocks_36 : decode b_Mo_makeBlocks 36 = .ok (.iconst 0, 1) := by decide +kernel
theorem d_Mo_makeBlocks_37 : decode b_Mo_makeBlocks 37 = .ok (.invokevirtual 97, 3) := by decide +kernel
theorem d_Mo_makeBlocks_40 : decode b_Mo_makeBlocks 40 = .ok (.ifCond .ge 7, 3) := by decide +kernel
theorem d_Mo_makeBlocks_43 : decode b_Mo_makeBlocks 43 = .ok (.iconst 1, 1) := by decide +kernel
theorem d_Mo_makeBlocks_44 : decode b_Mo_makeBlocks 44 = .ok (.goto 4, 3) := by decide +kernel
theorem d_Mo_makeBlocks_47 : decode b_Mo_makeBlocks 47 = .ok (.iconst 0, 1) := by decide +kernel
theorem d_Mo_makeBlocks_48 : decode b_Mo_makeBlocks 48 = .ok (.bastore, 1) := by decide +kernel
theorem d_Mo_makeBlocks_49 : decode b_Mo_makeBlocks 49 = .ok (.aload_n 0, 1) := by decide +kernel
theorem d_Mo_makeBlocks_50 : decode b_Mo_makeBlocks 50 = .ok (.getfield 21, 3) := by decide +kernel
theorem d_Mo_makeBlocks_53 : decode b_Mo_makeBlocks 53 = .ok (.iload 5, 2) := by decide +kernel
theorem d_Mo_makeBlocks_55 : decode b_Mo_makeBlocks 55 = .ok (.aload_n 0, 1) := by decide +kernel
theorem d_Mo_makeBlocks_56 : decode b_Mo_makeBlocks 56 = .ok (.getfield 24, 3) := by decide +kernel
theorem d_Mo_makeBlocks_59 : decode b_Mo_makeBlocks 59 = .ok (.iload 5, 2) := by decide +kernel
theorem d_Mo_makeBlocks_61 : decode b_Mo_makeBlocks 61 = .ok (.baload, 1) := by decide +kernel
theorem d_Mo_makeBlocks_62 : decode b_Mo_makeBlocks 62 = .ok (.ifCond .eq 7, 3) := by decide +kernel
theorem d_Mo_makeBlocks_65 : decode b_Mo_makeBlocks 65 = .ok (.iconst 0, 1) := by decide +kernel
theorem d_Mo_makeBlocks_66 : decode b_Mo_makeBlocks 66 = .ok (.goto 35, 3) := by decide +kernel
theorem d_Mo_makeBlocks_69 : decode b_Mo_makeBlocks 69 = .ok (.aload_n 0, 1) := by decide +kernel
theorem d_Mo_makeBlocks_70 : decode b_Mo_makeBlocks 70 = .ok (.iload_n 1, 1) := by decide +kernel
theorem d_Mo_makeBlocks_71 : decode b_Mo_makeBlocks 71 = .ok (.iload 4, 2) := by decide +kernel
theorem d_Mo_makeBlocks_73 : decode b_Mo_makeBlocks 73 = .ok (.iconst 0, 1) := by decide +kernel
theorem d_Mo_makeBlocks_74 : decode b_Mo_makeBlocks 74 = .ok (.invokevirtual 97, 3) := by decide +kernel
theorem d_Mo_makeBlocks_77 : decode b_Mo_makeBlocks 77 = .ok (.bipush 16, 2) := by decide +kernel
theorem d_Mo_makeBlocks_79 : decode b_Mo_makeBlocks 79 = .ok (.ishl, 1) := by decide +kernel
theorem d_Mo_makeBlocks_80 : decode b_Mo_makeBlocks 80 = .ok (.aload_n 0, 1) := by decide +kernel
theorem d_Mo_makeBlocks_81 : decode b_Mo_makeBlocks 81 = .ok (.iload_n 1, 1) := by decide +kernel
theorem d_Mo_makeBlocks_82 : decode b_Mo_makeBlocks 82 = .ok (.iload 4, 2) := by decide +kernel
theorem d_Mo_makeBlocks_84 : decode b_Mo_makeBlocks 84 = .ok (.iconst 1, 1) := by decide +kernel
theorem d_Mo_makeBlocks_85 : decode b_Mo_makeBlocks 85 = .ok (.invokevirtual 97, 3) := by decide +kernel
theorem d_Mo_makeBlocks_88 : decode b_Mo_makeBlocks 88 = .ok (.bipush 8, 2) := by decide +kernel
theorem d_Mo_makeBlocks_90 : decode b_Mo_makeBlocks 90 = .ok (.ishl, 1) := by decide +kernel
theorem d_Mo_makeBlocks_91 : decode b_Mo_makeBlocks 91 = .ok (.ior, 1) := by decide +kernel
theorem d_Mo_makeBlocks_92 : decode b_Mo_makeBlocks 92 = .ok (.aload_n 0, 1) := by decide +kernel
theorem d_Mo_makeBlocks_93 : decode b_Mo_makeBlocks 93 = .ok (.iload_n 1, 1) := by decide +kernel
theorem d_Mo_makeBlocks_94 : decode b_Mo_makeBlocks 94 = .ok (.iload 4, 2) := by decide +kernel
theorem d_Mo_makeBlocks_96 : decode b_Mo_makeBlocks 96 = .ok (.iconst 2, 1) := by decide +kernel
theorem d_Mo_makeBlocks_97 : decode b_Mo_makeBlocks 97 = .ok (.invokevirtual 97, 3) := by decide +kernel
theorem d_Mo_makeBlocks_100 : decode b_Mo_makeBlocks 100 = .ok (.ior, 1) := by decide +kernel
theorem d_Mo_makeBlocks_101 : decode b_Mo_makeBlocks 101 = .ok (.iastore, 1) := by decide +kernel
theorem d_Mo_makeBlocks_102 : decode b_Mo_makeBlocks 102 = .ok (.iload_n 3, 1) := by decide +kernel
theorem d_Mo_makeBlocks_103 : decode b_Mo_makeBlocks 103 = .ok (.ifCond .ge 23, 3) := by decide +kernel
theorem d_Mo_makeBlocks_106 : decode b_Mo_makeBlocks 106 = .ok (.aload_n 0, 1) := by decide +kernel
theorem d_Mo_makeBlocks_107 : decode b_Mo_makeBlocks 107 = .ok (.getfield 24, 3) := by decide +kernel
theorem d_Mo_makeBlocks_110 : decode b_Mo_makeBlocks 110 = .ok (.iload 5, 2) := by decide +kernel
theorem d_Mo_makeBlocks_112 : decode b_Mo_makeBlocks 112 = .ok (.baload, 1) := by decide +kernel
theorem d_Mo_makeBlocks_113 : decode b_Mo_makeBlocks 113 = .ok (.ifCond .ne 13, 3) := by decide +kernel
theorem d_Mo_makeBlocks_116 : decode b_Mo_makeBlocks 116 = .ok (.aload_n 0, 1) := by decide +kernel
theorem d_Mo_makeBlocks_117 : decode b_Mo_makeBlocks 117 = .ok (.getfield 21, 3) := by decide +kernel
theorem d_Mo_makeBlocks_120 : decode b_Mo_makeBlocks 120 = .ok (.iload 5, 2) := by decide +kernel
