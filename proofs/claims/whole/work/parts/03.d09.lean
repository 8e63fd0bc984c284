theorem d_Mo_write_96 : decode b_Mo_write 96 = .ok (.if_icmp .ge 58, 3) := by decide +kernel
theorem d_Mo_write_99 : decode b_Mo_write 99 = .ok (.aload_n 0, 1) := by decide +kernel
theorem d_Mo_write_100 : decode b_Mo_write 100 = .ok (.iload_n 1, 1) := by decide +kernel
theorem d_Mo_write_101 : decode b_Mo_write 101 = .ok (.aload_n 0, 1) := by decide +kernel
theorem d_Mo_write_102 : decode b_Mo_write 102 = .ok (.getfield 107, 3) := by decide +kernel
theorem d_Mo_write_105 : decode b_Mo_write 105 = .ok (.imul, 1) := by decide +kernel
theorem d_Mo_write_106 : decode b_Mo_write 106 = .ok (.invokevirtual 144, 3) := by decide +kernel
theorem d_Mo_write_109 : decode b_Mo_write 109 = .ok (.pop, 1) := by decide +kernel
theorem d_Mo_write_110 : decode b_Mo_write 110 = .ok (.iconst 0, 1) := by decide +kernel
theorem d_Mo_write_111 : decode b_Mo_write 111 = .ok (.istore_n 2, 1) := by decide +kernel
theorem d_Mo_write_112 : decode b_Mo_write 112 = .ok (.iload_n 2, 1) := by decide +kernel
theorem d_Mo_write_113 : decode b_Mo_write 113 = .ok (.iconst 4, 1) := by decide +kernel
theorem d_Mo_write_114 : decode b_Mo_write 114 = .ok (.if_icmp .ge 27, 3) := by decide +kernel
theorem d_Mo_write_117 : decode b_Mo_write 117 = .ok (.aload_n 0, 1) := by decide +kernel
theorem d_Mo_write_118 : decode b_Mo_write 118 = .ok (.getfield 27, 3) := by decide +kernel
theorem d_Mo_write_121 : decode b_Mo_write 121 = .ok (.iconst 4, 1) := by decide +kernel
theorem d_Mo_write_122 : decode b_Mo_write 122 = .ok (.iload_n 1, 1) := by decide +kernel
theorem d_Mo_write_123 : decode b_Mo_write 123 = .ok (.imul, 1) := by decide +kernel
theorem d_Mo_write_124 : decode b_Mo_write 124 = .ok (.iload_n 2, 1) := by decide +kernel
theorem d_Mo_write_125 : decode b_Mo_write 125 = .ok (.iadd, 1) := by decide +kernel
theorem d_Mo_write_126 : decode b_Mo_write 126 = .ok (.baload, 1) := by decide +kernel
theorem d_Mo_write_127 : decode b_Mo_write 127 = .ok (.ifCond .eq 8, 3) := by decide +kernel
theorem d_Mo_write_130 : decode b_Mo_write 130 = .ok (.aload_n 0, 1) := by decide +kernel
theorem d_Mo_write_131 : decode b_Mo_write 131 = .ok (.iload_n 2, 1) := by decide +kernel
theorem d_Mo_write_132 : decode b_Mo_write 132 = .ok (.invokevirtual 163, 3) := by decide +kernel
theorem d_Mo_write_135 : decode b_Mo_write 135 = .ok (.iinc 2 1, 3) := by decide +kernel
theorem d_Mo_write_138 : decode b_Mo_write 138 = .ok (.goto (-26), 3) := by decide +kernel
theorem d_Mo_write_141 : decode b_Mo_write 141 = .ok (.aload_n 0, 1) := by decide +kernel
theorem d_Mo_write_142 : decode b_Mo_write 142 = .ok (.sipush 175, 3) := by decide +kernel
theorem d_Mo_write_145 : decode b_Mo_write 145 = .ok (.invokevirtual 150, 3) := by decide +kernel
theorem d_Mo_write_148 : decode b_Mo_write 148 = .ok (.iinc 1 1, 3) := by decide +kernel
theorem d_Mo_write_151 : decode b_Mo_write 151 = .ok (.goto (-67), 3) := by decide +kernel
theorem d_Mo_write_154 : decode b_Mo_write 154 = .ok (.aload_n 0, 1) := by decide +kernel
theorem d_Mo_write_155 : decode b_Mo_write 155 = .ok (.getfield 147, 3) := by decide +kernel
theorem d_Mo_write_158 : decode b_Mo_write 158 = .ok (.ireturn, 1) := by decide +kernel
abbrev b_Mo_byteAt : ByteArray := prog_8_method_35_code
def y_Mo_byteAt : MethodName := ⟨"MaskLayersModel", "byteAt", "(I)I"⟩
theorem d_Mo_byteAt_0 : decode b_Mo_byteAt 0 = .ok (.aload_n 0, 1) := by decide +kernel
theorem d_Mo_byteAt_1 : decode b_Mo_byteAt 1 = .ok (.iload_n 1, 1) := by decide +kernel
theorem d_Mo_byteAt_2 : decode b_Mo_byteAt 2 = .ok (.ifCond .lt 11, 3) := by decide +kernel
theorem d_Mo_byteAt_5 : decode b_Mo_byteAt 5 = .ok (.iload_n 1, 1) := by decide +kernel
theorem d_Mo_byteAt_6 : decode b_Mo_byteAt 6 = .ok (.aload_n 0, 1) := by decide +kernel
theorem d_Mo_byteAt_7 : decode b_Mo_byteAt 7 = .ok (.getfield 147, 3) := by decide +kernel
theorem d_Mo_byteAt_10 : decode b_Mo_byteAt 10 = .ok (.if_icmp .lt 7, 3) := by decide +kernel
theorem d_Mo_byteAt_13 : decode b_Mo_byteAt 13 = .ok (.iconst 1, 1) := by decide +kernel
theorem d_Mo_byteAt_14 : decode b_Mo_byteAt 14 = .ok (.goto 4, 3) := by decide +kernel
theorem d_Mo_byteAt_17 : decode b_Mo_byteAt 17 = .ok (.iconst 0, 1) := by decide +kernel
theorem d_Mo_byteAt_18 : decode b_Mo_byteAt 18 = .ok (.putfield 51, 3) := by decide +kernel
theorem d_Mo_byteAt_21 : decode b_Mo_byteAt 21 = .ok (.aload_n 0, 1) := by decide +kernel
theorem d_Mo_byteAt_22 : decode b_Mo_byteAt 22 = .ok (.getfield 51, 3) := by decide +kernel
theorem d_Mo_byteAt_25 : decode b_Mo_byteAt 25 = .ok (.ifCond .le 7, 3) := by decide +kernel
theorem d_Mo_byteAt_28 : decode b_Mo_byteAt 28 = .ok (.iconst 0, 1) := by decide +kernel
theorem d_Mo_byteAt_29 : decode b_Mo_byteAt 29 = .ok (.goto 9, 3) := by decide +kernel
theorem d_Mo_byteAt_32 : decode b_Mo_byteAt 32 = .ok (.aload_n 0, 1) := by decide +kernel
theorem d_Mo_byteAt_33 : decode b_Mo_byteAt 33 = .ok (.getfield 30, 3) := by decide +kernel
theorem d_Mo_byteAt_36 : decode b_Mo_byteAt 36 = .ok (.iload_n 1, 1) := by decide +kernel
theorem d_Mo_byteAt_37 : decode b_Mo_byteAt 37 = .ok (.iaload, 1) := by decide +kernel
theorem d_Mo_byteAt_38 : decode b_Mo_byteAt 38 = .ok (.ireturn, 1) := by decide +kernel
abbrev b_Mo_feed : ByteArray := prog_8_method_36_code
def y_Mo_feed : MethodName := ⟨"MaskLayersModel", "feed", "(I)I"⟩
theorem d_Mo_feed_0 : decode b_Mo_feed 0 = .ok (.aload_n 0, 1) := by decide +kernel
theorem d_Mo_feed_1 : decode b_Mo_feed 1 = .ok (.iload_n 1, 1) := by decide +kernel
theorem d_Mo_feed_2 : decode b_Mo_feed 2 = .ok (.ifCond .lt 10, 3) := by decide +kernel
theorem d_Mo_feed_5 : decode b_Mo_feed 5 = .ok (.iload_n 1, 1) := by decide +kernel
theorem d_Mo_feed_6 : decode b_Mo_feed 6 = .ok (.sipush 255, 3) := by decide +kernel
theorem d_Mo_feed_9 : decode b_Mo_feed 9 = .ok (.if_icmp .le 7, 3) := by decide +kernel
theorem d_Mo_feed_12 : decode b_Mo_feed 12 = .ok (.iconst 1, 1) := by decide +kernel
theorem d_Mo_feed_13 : decode b_Mo_feed 13 = .ok (.goto 18, 3) := by decide +kernel
theorem d_Mo_feed_16 : decode b_Mo_feed 16 = .ok (.aload_n 0, 1) := by decide +kernel
theorem d_Mo_feed_17 : decode b_Mo_feed 17 = .ok (.getfield 166, 3) := by decide +kernel
theorem d_Mo_feed_20 : decode b_Mo_feed 20 = .ok (.sipush 6400, 3) := by decide +kernel
theorem d_Mo_feed_23 : decode b_Mo_feed 23 = .ok (.if_icmp .ne 7, 3) := by decide +kernel
theorem d_Mo_feed_26 : decode b_Mo_feed 26 = .ok (.iconst 2, 1) := by decide +kernel
theorem d_Mo_feed_27 : decode b_Mo_feed 27 = .ok (.goto 4, 3) := by decide +kernel
theorem d_Mo_feed_30 : decode b_Mo_feed 30 = .ok (.iconst 0, 1) := by decide +kernel
theorem d_Mo_feed_31 : decode b_Mo_feed 31 = .ok (.putfield 51, 3) := by decide +kernel
theorem d_Mo_feed_34 : decode b_Mo_feed 34 = .ok (.aload_n 0, 1) := by decide +kernel
theorem d_Mo_feed_35 : decode b_Mo_feed 35 = .ok (.getfield 51, 3) := by decide +kernel
theorem d_Mo_feed_38 : decode b_Mo_feed 38 = .ok (.ifCond .le 5, 3) := by decide +kernel
theorem d_Mo_feed_41 : decode b_Mo_feed 41 = .ok (.iconst 0, 1) := by decide +kernel
theorem d_Mo_feed_42 : decode b_Mo_feed 42 = .ok (.ireturn, 1) := by decide +kernel
theorem d_Mo_feed_43 : decode b_Mo_feed 43 = .ok (.aload_n 0, 1) := by decide +kernel
theorem d_Mo_feed_44 : decode b_Mo_feed 44 = .ok (.getfield 33, 3) := by decide +kernel
theorem d_Mo_feed_47 : decode b_Mo_feed 47 = .ok (.aload_n 0, 1) := by decide +kernel
theorem d_Mo_feed_48 : decode b_Mo_feed 48 = .ok (.getfield 166, 3) := by decide +kernel
theorem d_Mo_feed_51 : decode b_Mo_feed 51 = .ok (.iload_n 1, 1) := by decide +kernel
theorem d_Mo_feed_52 : decode b_Mo_feed 52 = .ok (.iastore, 1) := by decide +kernel
theorem d_Mo_feed_53 : decode b_Mo_feed 53 = .ok (.aload_n 0, 1) := by decide +kernel
theorem d_Mo_feed_54 : decode b_Mo_feed 54 = .ok (.dup, 1) := by decide +kernel
theorem d_Mo_feed_55 : decode b_Mo_feed 55 = .ok (.getfield 166, 3) := by decide +kernel
theorem d_Mo_feed_58 : decode b_Mo_feed 58 = .ok (.iconst 1, 1) := by decide +kernel
theorem d_Mo_feed_59 : decode b_Mo_feed 59 = .ok (.iadd, 1) := by decide +kernel
theorem d_Mo_feed_60 : decode b_Mo_feed 60 = .ok (.putfield 166, 3) := by decide +kernel
theorem d_Mo_feed_63 : decode b_Mo_feed 63 = .ok (.aload_n 0, 1) := by decide +kernel
theorem d_Mo_feed_64 : decode b_Mo_feed 64 = .ok (.getfield 166, 3) := by decide +kernel
theorem d_Mo_feed_67 : decode b_Mo_feed 67 = .ok (.ireturn, 1) := by decide +kernel
abbrev b_Mo_pass : ByteArray := prog_8_method_37_code
def y_Mo_pass : MethodName := ⟨"MaskLayersModel", "pass", "(II)I"⟩
theorem d_Mo_pass_0 : decode b_Mo_pass 0 = .ok (.aload_n 0, 1) := by decide +kernel
theorem d_Mo_pass_1 : decode b_Mo_pass 1 = .ok (.iload_n 1, 1) := by decide +kernel
theorem d_Mo_pass_2 : decode b_Mo_pass 2 = .ok (.ifCond .lt 11, 3) := by decide +kernel
theorem d_Mo_pass_5 : decode b_Mo_pass 5 = .ok (.iload_n 1, 1) := by decide +kernel
theorem d_Mo_pass_6 : decode b_Mo_pass 6 = .ok (.aload_n 0, 1) := by decide +kernel
theorem d_Mo_pass_7 : decode b_Mo_pass 7 = .ok (.getfield 147, 3) := by decide +kernel
theorem d_Mo_pass_10 : decode b_Mo_pass 10 = .ok (.if_icmp .lt 7, 3) := by decide +kernel
theorem d_Mo_pass_13 : decode b_Mo_pass 13 = .ok (.iconst 1, 1) := by decide +kernel
theorem d_Mo_pass_14 : decode b_Mo_pass 14 = .ok (.goto 12, 3) := by decide +kernel
theorem d_Mo_pass_17 : decode b_Mo_pass 17 = .ok (.iload_n 2, 1) := by decide +kernel
theorem d_Mo_pass_18 : decode b_Mo_pass 18 = .ok (.ifCond .ge 7, 3) := by decide +kernel
theorem d_Mo_pass_21 : decode b_Mo_pass 21 = .ok (.iconst 2, 1) := by decide +kernel
theorem d_Mo_pass_22 : decode b_Mo_pass 22 = .ok (.goto 4, 3) := by decide +kernel
theorem d_Mo_pass_25 : decode b_Mo_pass 25 = .ok (.iconst 0, 1) := by decide +kernel
theorem d_Mo_pass_26 : decode b_Mo_pass 26 = .ok (.putfield 51, 3) := by decide +kernel
theorem d_Mo_pass_29 : decode b_Mo_pass 29 = .ok (.aload_n 0, 1) := by decide +kernel
theorem d_Mo_pass_30 : decode b_Mo_pass 30 = .ok (.getfield 51, 3) := by decide +kernel
theorem d_Mo_pass_33 : decode b_Mo_pass 33 = .ok (.ifCond .le 5, 3) := by decide +kernel
theorem d_Mo_pass_36 : decode b_Mo_pass 36 = .ok (.iconst 0, 1) := by decide +kernel
theorem d_Mo_pass_37 : decode b_Mo_pass 37 = .ok (.ireturn, 1) := by decide +kernel
theorem d_Mo_pass_38 : decode b_Mo_pass 38 = .ok (.iload_n 2, 1) := by decide +kernel
theorem d_Mo_pass_39 : decode b_Mo_pass 39 = .ok (.aload_n 0, 1) := by decide +kernel
theorem d_Mo_pass_40 : decode b_Mo_pass 40 = .ok (.getfield 147, 3) := by decide +kernel
theorem d_Mo_pass_43 : decode b_Mo_pass 43 = .ok (.iload_n 1, 1) := by decide +kernel
theorem d_Mo_pass_44 : decode b_Mo_pass 44 = .ok (.isub, 1) := by decide +kernel
theorem d_Mo_pass_45 : decode b_Mo_pass 45 = .ok (.if_icmp .ge 7, 3) := by decide +kernel
theorem d_Mo_pass_48 : decode b_Mo_pass 48 = .ok (.iload_n 2, 1) := by decide +kernel
theorem d_Mo_pass_49 : decode b_Mo_pass 49 = .ok (.goto 9, 3) := by decide +kernel
theorem d_Mo_pass_52 : decode b_Mo_pass 52 = .ok (.aload_n 0, 1) := by decide +kernel
theorem d_Mo_pass_53 : decode b_Mo_pass 53 = .ok (.getfield 147, 3) := by decide +kernel
theorem d_Mo_pass_56 : decode b_Mo_pass 56 = .ok (.iload_n 1, 1) := by decide +kernel
theorem d_Mo_pass_57 : decode b_Mo_pass 57 = .ok (.isub, 1) := by decide +kernel
theorem d_Mo_pass_58 : decode b_Mo_pass 58 = .ok (.istore_n 3, 1) := by decide +kernel
theorem d_Mo_pass_59 : decode b_Mo_pass 59 = .ok (.aload_n 0, 1) := by decide +kernel
theorem d_Mo_pass_60 : decode b_Mo_pass 60 = .ok (.aload_n 0, 1) := by decide +kernel
theorem d_Mo_pass_61 : decode b_Mo_pass 61 = .ok (.getfield 166, 3) := by decide +kernel
theorem d_Mo_pass_64 : decode b_Mo_pass 64 = .ok (.iload_n 3, 1) := by decide +kernel
theorem d_Mo_pass_65 : decode b_Mo_pass 65 = .ok (.iadd, 1) := by decide +kernel
theorem d_Mo_pass_66 : decode b_Mo_pass 66 = .ok (.sipush 6400, 3) := by decide +kernel
theorem d_Mo_pass_69 : decode b_Mo_pass 69 = .ok (.if_icmp .le 7, 3) := by decide +kernel
theorem d_Mo_pass_72 : decode b_Mo_pass 72 = .ok (.iconst 3, 1) := by decide +kernel
theorem d_Mo_pass_73 : decode b_Mo_pass 73 = .ok (.goto 4, 3) := by decide +kernel
theorem d_Mo_pass_76 : decode b_Mo_pass 76 = .ok (.iconst 0, 1) := by decide +kernel
theorem d_Mo_pass_77 : decode b_Mo_pass 77 = .ok (.putfield 51, 3) := by decide +kernel
theorem d_Mo_pass_80 : decode b_Mo_pass 80 = .ok (.aload_n 0, 1) := by decide +kernel
theorem d_Mo_pass_81 : decode b_Mo_pass 81 = .ok (.getfield 51, 3) := by decide +kernel
theorem d_Mo_pass_84 : decode b_Mo_pass 84 = .ok (.ifCond .le 5, 3) := by decide +kernel
theorem d_Mo_pass_87 : decode b_Mo_pass 87 = .ok (.iconst 0, 1) := by decide +kernel
theorem d_Mo_pass_88 : decode b_Mo_pass 88 = .ok (.ireturn, 1) := by decide +kernel
theorem d_Mo_pass_89 : decode b_Mo_pass 89 = .ok (.iconst 0, 1) := by decide +kernel
theorem d_Mo_pass_90 : decode b_Mo_pass 90 = .ok (.istore 4, 2) := by decide +kernel
theorem d_Mo_pass_92 : decode b_Mo_pass 92 = .ok (.iload 4, 2) := by decide +kernel
theorem d_Mo_pass_94 : decode b_Mo_pass 94 = .ok (.iload_n 3, 1) := by decide +kernel
theorem d_Mo_pass_95 : decode b_Mo_pass 95 = .ok (.if_icmp .ge 37, 3) := by decide +kernel
theorem d_Mo_pass_98 : decode b_Mo_pass 98 = .ok (.aload_n 0, 1) := by decide +kernel
theorem d_Mo_pass_99 : decode b_Mo_pass 99 = .ok (.getfield 33, 3) := by decide +kernel
theorem d_Mo_pass_102 : decode b_Mo_pass 102 = .ok (.aload_n 0, 1) := by decide +kernel
theorem d_Mo_pass_103 : decode b_Mo_pass 103 = .ok (.getfield 166, 3) := by decide +kernel
theorem d_Mo_pass_106 : decode b_Mo_pass 106 = .ok (.aload_n 0, 1) := by decide +kernel
theorem d_Mo_pass_107 : decode b_Mo_pass 107 = .ok (.getfield 30, 3) := by decide +kernel
theorem d_Mo_pass_110 : decode b_Mo_pass 110 = .ok (.iload_n 1, 1) := by decide +kernel
theorem d_Mo_pass_111 : decode b_Mo_pass 111 = .ok (.iload 4, 2) := by decide +kernel
theorem d_Mo_pass_113 : decode b_Mo_pass 113 = .ok (.iadd, 1) := by decide +kernel
theorem d_Mo_pass_114 : decode b_Mo_pass 114 = .ok (.iaload, 1) := by decide +kernel
theorem d_Mo_pass_115 : decode b_Mo_pass 115 = .ok (.iastore, 1) := by decide +kernel
theorem d_Mo_pass_116 : decode b_Mo_pass 116 = .ok (.aload_n 0, 1) := by decide +kernel
theorem d_Mo_pass_117 : decode b_Mo_pass 117 = .ok (.dup, 1) := by decide +kernel
theorem d_Mo_pass_118 : decode b_Mo_pass 118 = .ok (.getfield 166, 3) := by decide +kernel
theorem d_Mo_pass_121 : decode b_Mo_pass 121 = .ok (.iconst 1, 1) := by decide +kernel
theorem d_Mo_pass_122 : decode b_Mo_pass 122 = .ok (.iadd, 1) := by decide +kernel
theorem d_Mo_pass_123 : decode b_Mo_pass 123 = .ok (.putfield 166, 3) := by decide +kernel
theorem d_Mo_pass_126 : decode b_Mo_pass 126 = .ok (.iinc 4 1, 3) := by decide +kernel
theorem d_Mo_pass_129 : decode b_Mo_pass 129 = .ok (.goto (-37), 3) := by decide +kernel
theorem d_Mo_pass_132 : decode b_Mo_pass 132 = .ok (.iload_n 3, 1) := by decide +kernel
theorem d_Mo_pass_133 : decode b_Mo_pass 133 = .ok (.ireturn, 1) := by decide +kernel
abbrev b_Mo_alter : ByteArray := prog_8_method_38_code
def y_Mo_alter : MethodName := ⟨"MaskLayersModel", "alter", "(II)I"⟩
theorem d_Mo_alter_0 : decode b_Mo_alter 0 = .ok (.aload_n 0, 1) := by decide +kernel
theorem d_Mo_alter_1 : decode b_Mo_alter 1 = .ok (.iload_n 1, 1) := by decide +kernel
theorem d_Mo_alter_2 : decode b_Mo_alter 2 = .ok (.ifCond .lt 11, 3) := by decide +kernel
theorem d_Mo_alter_5 : decode b_Mo_alter 5 = .ok (.iload_n 1, 1) := by decide +kernel
theorem d_Mo_alter_6 : decode b_Mo_alter 6 = .ok (.aload_n 0, 1) := by decide +kernel
theorem d_Mo_alter_7 : decode b_Mo_alter 7 = .ok (.getfield 166, 3) := by decide +kernel
theorem d_Mo_alter_10 : decode b_Mo_alter 10 = .ok (.if_icmp .lt 7, 3) := by decide +kernel
theorem d_Mo_alter_13 : decode b_Mo_alter 13 = .ok (.iconst 1, 1) := by decide +kernel
theorem d_Mo_alter_14 : decode b_Mo_alter 14 = .ok (.goto 19, 3) := by decide +kernel
theorem d_Mo_alter_17 : decode b_Mo_alter 17 = .ok (.iload_n 2, 1) := by decide +kernel
theorem d_Mo_alter_18 : decode b_Mo_alter 18 = .ok (.ifCond .lt 10, 3) := by decide +kernel
theorem d_Mo_alter_21 : decode b_Mo_alter 21 = .ok (.iload_n 2, 1) := by decide +kernel
theorem d_Mo_alter_22 : decode b_Mo_alter 22 = .ok (.sipush 255, 3) := by decide +kernel
theorem d_Mo_alter_25 : decode b_Mo_alter 25 = .ok (.if_icmp .le 7, 3) := by decide +kernel
theorem d_Mo_alter_28 : decode b_Mo_alter 28 = .ok (.iconst 2, 1) := by decide +kernel
theorem d_Mo_alter_29 : decode b_Mo_alter 29 = .ok (.goto 4, 3) := by decide +kernel
theorem d_Mo_alter_32 : decode b_Mo_alter 32 = .ok (.iconst 0, 1) := by decide +kernel
theorem d_Mo_alter_33 : decode b_Mo_alter 33 = .ok (.putfield 51, 3) := by decide +kernel
theorem d_Mo_alter_36 : decode b_Mo_alter 36 = .ok (.aload_n 0, 1) := by decide +kernel
theorem d_Mo_alter_37 : decode b_Mo_alter 37 = .ok (.getfield 51, 3) := by decide +kernel
theorem d_Mo_alter_40 : decode b_Mo_alter 40 = .ok (.ifCond .le 5, 3) := by decide +kernel
theorem d_Mo_alter_43 : decode b_Mo_alter 43 = .ok (.iconst 0, 1) := by decide +kernel
theorem d_Mo_alter_44 : decode b_Mo_alter 44 = .ok (.ireturn, 1) := by decide +kernel
theorem d_Mo_alter_45 : decode b_Mo_alter 45 = .ok (.aload_n 0, 1) := by decide +kernel
theorem d_Mo_alter_46 : decode b_Mo_alter 46 = .ok (.getfield 33, 3) := by decide +kernel
theorem d_Mo_alter_49 : decode b_Mo_alter 49 = .ok (.iload_n 1, 1) := by decide +kernel
theorem d_Mo_alter_50 : decode b_Mo_alter 50 = .ok (.iaload, 1) := by decide +kernel
theorem d_Mo_alter_51 : decode b_Mo_alter 51 = .ok (.istore_n 3, 1) := by decide +kernel
theorem d_Mo_alter_52 : decode b_Mo_alter 52 = .ok (.aload_n 0, 1) := by decide +kernel
theorem d_Mo_alter_53 : decode b_Mo_alter 53 = .ok (.getfield 33, 3) := by decide +kernel
theorem d_Mo_alter_56 : decode b_Mo_alter 56 = .ok (.iload_n 1, 1) := by decide +kernel
theorem d_Mo_alter_57 : decode b_Mo_alter 57 = .ok (.iload_n 2, 1) := by decide +kernel
theorem d_Mo_alter_58 : decode b_Mo_alter 58 = .ok (.iastore, 1) := by decide +kernel
theorem d_Mo_alter_59 : decode b_Mo_alter 59 = .ok (.iload_n 3, 1) := by decide +kernel
theorem d_Mo_alter_60 : decode b_Mo_alter 60 = .ok (.ireturn, 1) := by decide +kernel
abbrev b_Mo_refuse : ByteArray := prog_8_method_39_code
def y_Mo_refuse : MethodName := ⟨"MaskLayersModel", "refuse", "(I)V"⟩
theorem d_Mo_refuse_0 : decode b_Mo_refuse 0 = .ok (.aload_n 0, 1) := by decide +kernel
theorem d_Mo_refuse_1 : decode b_Mo_refuse 1 = .ok (.aload_n 0, 1) := by decide +kernel
theorem d_Mo_refuse_2 : decode b_Mo_refuse 2 = .ok (.getfield 169, 3) := by decide +kernel
theorem d_Mo_refuse_5 : decode b_Mo_refuse 5 = .ok (.ifCond .ge 7, 3) := by decide +kernel
theorem d_Mo_refuse_8 : decode b_Mo_refuse 8 = .ok (.iload_n 1, 1) := by decide +kernel
theorem d_Mo_refuse_9 : decode b_Mo_refuse 9 = .ok (.goto 7, 3) := by decide +kernel
theorem d_Mo_refuse_12 : decode b_Mo_refuse 12 = .ok (.aload_n 0, 1) := by decide +kernel
theorem d_Mo_refuse_13 : decode b_Mo_refuse 13 = .ok (.getfield 169, 3) := by decide +kernel
theorem d_Mo_refuse_16 : decode b_Mo_refuse 16 = .ok (.putfield 169, 3) := by decide +kernel
theorem d_Mo_refuse_19 : decode b_Mo_refuse 19 = .ok (.return_, 1) := by decide +kernel
abbrev b_Mo_take : ByteArray := prog_8_method_40_code
def y_Mo_take : MethodName := ⟨"MaskLayersModel", "take", "()I"⟩
theorem d_Mo_take_0 : decode b_Mo_take 0 = .ok (.aload_n 0, 1) := by decide +kernel
theorem d_Mo_take_1 : decode b_Mo_take 1 = .ok (.getfield 169, 3) := by decide +kernel
theorem d_Mo_take_4 : decode b_Mo_take 4 = .ok (.ifCond .ge 22, 3) := by decide +kernel
theorem d_Mo_take_7 : decode b_Mo_take 7 = .ok (.aload_n 0, 1) := by decide +kernel
theorem d_Mo_take_8 : decode b_Mo_take 8 = .ok (.getfield 172, 3) := by decide +kernel
theorem d_Mo_take_11 : decode b_Mo_take 11 = .ok (.aload_n 0, 1) := by decide +kernel
theorem d_Mo_take_12 : decode b_Mo_take 12 = .ok (.getfield 166, 3) := by decide +kernel
theorem d_Mo_take_15 : decode b_Mo_take 15 = .ok (.if_icmp .ne 11, 3) := by decide +kernel
theorem d_Mo_take_18 : decode b_Mo_take 18 = .ok (.aload_n 0, 1) := by decide +kernel
theorem d_Mo_take_19 : decode b_Mo_take 19 = .ok (.aload_n 0, 1) := by decide +kernel
theorem d_Mo_take_20 : decode b_Mo_take 20 = .ok (.getfield 172, 3) := by decide +kernel
theorem d_Mo_take_23 : decode b_Mo_take 23 = .ok (.invokevirtual 175, 3) := by decide +kernel
theorem d_Mo_take_26 : decode b_Mo_take 26 = .ok (.aload_n 0, 1) := by decide +kernel
theorem d_Mo_take_27 : decode b_Mo_take 27 = .ok (.getfield 169, 3) := by decide +kernel
theorem d_Mo_take_30 : decode b_Mo_take 30 = .ok (.ifCond .lt 5, 3) := by decide +kernel
theorem d_Mo_take_33 : decode b_Mo_take 33 = .ok (.iconst 0, 1) := by decide +kernel
theorem d_Mo_take_34 : decode b_Mo_take 34 = .ok (.ireturn, 1) := by decide +kernel
theorem d_Mo_take_35 : decode b_Mo_take 35 = .ok (.aload_n 0, 1) := by decide +kernel
theorem d_Mo_take_36 : decode b_Mo_take 36 = .ok (.dup, 1) := by decide +kernel
theorem d_Mo_take_37 : decode b_Mo_take 37 = .ok (.getfield 172, 3) := by decide +kernel
theorem d_Mo_take_40 : decode b_Mo_take 40 = .ok (.iconst 1, 1) := by decide +kernel
theorem d_Mo_take_41 : decode b_Mo_take 41 = .ok (.iadd, 1) := by decide +kernel
theorem d_Mo_take_42 : decode b_Mo_take 42 = .ok (.putfield 172, 3) := by decide +kernel
theorem d_Mo_take_45 : decode b_Mo_take 45 = .ok (.aload_n 0, 1) := by decide +kernel
theorem d_Mo_take_46 : decode b_Mo_take 46 = .ok (.getfield 33, 3) := by decide +kernel
theorem d_Mo_take_49 : decode b_Mo_take 49 = .ok (.aload_n 0, 1) := by decide +kernel
theorem d_Mo_take_50 : decode b_Mo_take 50 = .ok (.getfield 172, 3) := by decide +kernel
theorem d_Mo_take_53 : decode b_Mo_take 53 = .ok (.iconst 1, 1) := by decide +kernel
theorem d_Mo_take_54 : decode b_Mo_take 54 = .ok (.isub, 1) := by decide +kernel
theorem d_Mo_take_55 : decode b_Mo_take 55 = .ok (.iaload, 1) := by decide +kernel
theorem d_Mo_take_56 : decode b_Mo_take 56 = .ok (.ireturn, 1) := by decide +kernel
abbrev b_Mo_takeIn : ByteArray := prog_8_method_41_code
def y_Mo_takeIn : MethodName := ⟨"MaskLayersModel", "takeIn", "(II)I"⟩
theorem d_Mo_takeIn_0 : decode b_Mo_takeIn 0 = .ok (.aload_n 0, 1) := by decide +kernel
theorem d_Mo_takeIn_1 : decode b_Mo_takeIn 1 = .ok (.invokevirtual 178, 3) := by decide +kernel
theorem d_Mo_takeIn_4 : decode b_Mo_takeIn 4 = .ok (.istore_n 3, 1) := by decide +kernel
theorem d_Mo_takeIn_5 : decode b_Mo_takeIn 5 = .ok (.iload_n 3, 1) := by decide +kernel
theorem d_Mo_takeIn_6 : decode b_Mo_takeIn 6 = .ok (.iload_n 1, 1) := by decide +kernel
theorem d_Mo_takeIn_7 : decode b_Mo_takeIn 7 = .ok (.if_icmp .lt 8, 3) := by decide +kernel
theorem d_Mo_takeIn_10 : decode b_Mo_takeIn 10 = .ok (.iload_n 3, 1) := by decide +kernel
theorem d_Mo_takeIn_11 : decode b_Mo_takeIn 11 = .ok (.iload_n 2, 1) := by decide +kernel
theorem d_Mo_takeIn_12 : decode b_Mo_takeIn 12 = .ok (.if_icmp .le 13, 3) := by decide +kernel
theorem d_Mo_takeIn_15 : decode b_Mo_takeIn 15 = .ok (.aload_n 0, 1) := by decide +kernel
theorem d_Mo_takeIn_16 : decode b_Mo_takeIn 16 = .ok (.aload_n 0, 1) := by decide +kernel
theorem d_Mo_takeIn_17 : decode b_Mo_takeIn 17 = .ok (.getfield 172, 3) := by decide +kernel
theorem d_Mo_takeIn_20 : decode b_Mo_takeIn 20 = .ok (.iconst 1, 1) := by decide +kernel
theorem d_Mo_takeIn_21 : decode b_Mo_takeIn 21 = .ok (.isub, 1) := by decide +kernel
theorem d_Mo_takeIn_22 : decode b_Mo_takeIn 22 = .ok (.invokevirtual 175, 3) := by decide +kernel
theorem d_Mo_takeIn_25 : decode b_Mo_takeIn 25 = .ok (.iload_n 3, 1) := by decide +kernel
theorem d_Mo_takeIn_26 : decode b_Mo_takeIn 26 = .ok (.ireturn, 1) := by decide +kernel
abbrev b_Mo_takeValue : ByteArray := prog_8_method_42_code
def y_Mo_takeValue : MethodName := ⟨"MaskLayersModel", "takeValue", "(I)I"⟩
theorem d_Mo_takeValue_0 : decode b_Mo_takeValue 0 = .ok (.iload_n 1, 1) := by decide +kernel
theorem d_Mo_takeValue_1 : decode b_Mo_takeValue 1 = .ok (.iconst 1, 1) := by decide +kernel
theorem d_Mo_takeValue_2 : decode b_Mo_takeValue 2 = .ok (.if_icmp .ne 10, 3) := by decide +kernel
theorem d_Mo_takeValue_5 : decode b_Mo_takeValue 5 = .ok (.aload_n 0, 1) := by decide +kernel
theorem d_Mo_takeValue_6 : decode b_Mo_takeValue 6 = .ok (.iconst 0, 1) := by decide +kernel
theorem d_Mo_takeValue_7 : decode b_Mo_takeValue 7 = .ok (.iconst 1, 1) := by decide +kernel
theorem d_Mo_takeValue_8 : decode b_Mo_takeValue 8 = .ok (.invokevirtual 182, 3) := by decide +kernel
theorem d_Mo_takeValue_11 : decode b_Mo_takeValue 11 = .ok (.ireturn, 1) := by decide +kernel
theorem d_Mo_takeValue_12 : decode b_Mo_takeValue 12 = .ok (.aload_n 0, 1) := by decide +kernel
theorem d_Mo_takeValue_13 : decode b_Mo_takeValue 13 = .ok (.invokevirtual 178, 3) := by decide +kernel
theorem d_Mo_takeValue_16 : decode b_Mo_takeValue 16 = .ok (.istore_n 2, 1) := by decide +kernel
theorem d_Mo_takeValue_17 : decode b_Mo_takeValue 17 = .ok (.aload_n 0, 1) := by decide +kernel
theorem d_Mo_takeValue_18 : decode b_Mo_takeValue 18 = .ok (.invokevirtual 178, 3) := by decide +kernel
theorem d_Mo_takeValue_21 : decode b_Mo_takeValue 21 = .ok (.istore_n 3, 1) := by decide +kernel
theorem d_Mo_takeValue_22 : decode b_Mo_takeValue 22 = .ok (.iload_n 2, 1) := by decide +kernel
theorem d_Mo_takeValue_23 : decode b_Mo_takeValue 23 = .ok (.bipush 16, 2) := by decide +kernel
theorem d_Mo_takeValue_25 : decode b_Mo_takeValue 25 = .ok (.ishl, 1) := by decide +kernel
theorem d_Mo_takeValue_26 : decode b_Mo_takeValue 26 = .ok (.iload_n 3, 1) := by decide +kernel
theorem d_Mo_takeValue_27 : decode b_Mo_takeValue 27 = .ok (.bipush 8, 2) := by decide +kernel
theorem d_Mo_takeValue_29 : decode b_Mo_takeValue 29 = .ok (.ishl, 1) := by decide +kernel
theorem d_Mo_takeValue_30 : decode b_Mo_takeValue 30 = .ok (.ior, 1) := by decide +kernel
theorem d_Mo_takeValue_31 : decode b_Mo_takeValue 31 = .ok (.aload_n 0, 1) := by decide +kernel
theorem d_Mo_takeValue_32 : decode b_Mo_takeValue 32 = .ok (.invokevirtual 178, 3) := by decide +kernel
theorem d_Mo_takeValue_35 : decode b_Mo_takeValue 35 = .ok (.ior, 1) := by decide +kernel
theorem d_Mo_takeValue_36 : decode b_Mo_takeValue 36 = .ok (.ireturn, 1) := by decide +kernel
abbrev b_Mo_takePlain : ByteArray := prog_8_method_43_code
def y_Mo_takePlain : MethodName := ⟨"MaskLayersModel", "takePlain", "(I)V"⟩
theorem d_Mo_takePlain_0 : decode b_Mo_takePlain 0 = .ok (.aload_n 0, 1) := by decide +kernel
theorem d_Mo_takePlain_1 : decode b_Mo_takePlain 1 = .ok (.iload_n 1, 1) := by decide +kernel
theorem d_Mo_takePlain_2 : decode b_Mo_takePlain 2 = .ok (.invokevirtual 94, 3) := by decide +kernel
theorem d_Mo_takePlain_5 : decode b_Mo_takePlain 5 = .ok (.istore_n 2, 1) := by decide +kernel
theorem d_Mo_takePlain_6 : decode b_Mo_takePlain 6 = .ok (.iconst 0, 1) := by decide +kernel
theorem d_Mo_takePlain_7 : decode b_Mo_takePlain 7 = .ok (.istore_n 3, 1) := by decide +kernel
theorem d_Mo_takePlain_8 : decode b_Mo_takePlain 8 = .ok (.iload_n 3, 1) := by decide +kernel
theorem d_Mo_takePlain_9 : decode b_Mo_takePlain 9 = .ok (.iload_n 2, 1) := by decide +kernel
theorem d_Mo_takePlain_10 : decode b_Mo_takePlain 10 = .ok (.if_icmp .ge 128, 3) := by decide +kernel
theorem d_Mo_takePlain_13 : decode b_Mo_takePlain 13 = .ok (.aload_n 0, 1) := by decide +kernel
theorem d_Mo_takePlain_14 : decode b_Mo_takePlain 14 = .ok (.getfield 169, 3) := by decide +kernel
theorem d_Mo_takePlain_17 : decode b_Mo_takePlain 17 = .ok (.ifCond .ge 121, 3) := by decide +kernel
theorem d_Mo_takePlain_20 : decode b_Mo_takePlain 20 = .ok (.iload_n 1, 1) := by decide +kernel
theorem d_Mo_takePlain_21 : decode b_Mo_takePlain 21 = .ok (.iconst 1, 1) := by decide +kernel
theorem d_Mo_takePlain_22 : decode b_Mo_takePlain 22 = .ok (.if_icmp .ne 83, 3) := by decide +kernel
theorem d_Mo_takePlain_25 : decode b_Mo_takePlain 25 = .ok (.aload_n 0, 1) := by decide +kernel
theorem d_Mo_takePlain_26 : decode b_Mo_takePlain 26 = .ok (.invokevirtual 178, 3) := by decide +kernel
theorem d_Mo_takePlain_29 : decode b_Mo_takePlain 29 = .ok (.istore 4, 2) := by decide +kernel
theorem d_Mo_takePlain_31 : decode b_Mo_takePlain 31 = .ok (.iconst 0, 1) := by decide +kernel
theorem d_Mo_takePlain_32 : decode b_Mo_takePlain 32 = .ok (.istore 5, 2) := by decide +kernel
theorem d_Mo_takePlain_34 : decode b_Mo_takePlain 34 = .ok (.iload 5, 2) := by decide +kernel
theorem d_Mo_takePlain_36 : decode b_Mo_takePlain 36 = .ok (.bipush 8, 2) := by decide +kernel
theorem d_Mo_takePlain_38 : decode b_Mo_takePlain 38 = .ok (.if_icmp .ge 64, 3) := by decide +kernel
theorem d_Mo_takePlain_41 : decode b_Mo_takePlain 41 = .ok (.iload 4, 2) := by decide +kernel
theorem d_Mo_takePlain_43 : decode b_Mo_takePlain 43 = .ok (.bipush 7, 2) := by decide +kernel
theorem d_Mo_takePlain_45 : decode b_Mo_takePlain 45 = .ok (.iload 5, 2) := by decide +kernel
theorem d_Mo_takePlain_47 : decode b_Mo_takePlain 47 = .ok (.isub, 1) := by decide +kernel
theorem d_Mo_takePlain_48 : decode b_Mo_takePlain 48 = .ok (.ishr, 1) := by decide +kernel
theorem d_Mo_takePlain_49 : decode b_Mo_takePlain 49 = .ok (.iconst 1, 1) := by decide +kernel
theorem d_Mo_takePlain_50 : decode b_Mo_takePlain 50 = .ok (.iand, 1) := by decide +kernel
theorem d_Mo_takePlain_51 : decode b_Mo_takePlain 51 = .ok (.istore 6, 2) := by decide +kernel
theorem d_Mo_takePlain_53 : decode b_Mo_takePlain 53 = .ok (.iload_n 3, 1) := by decide +kernel
theorem d_Mo_takePlain_54 : decode b_Mo_takePlain 54 = .ok (.iload 5, 2) := by decide +kernel
theorem d_Mo_takePlain_56 : decode b_Mo_takePlain 56 = .ok (.iadd, 1) := by decide +kernel
theorem d_Mo_takePlain_57 : decode b_Mo_takePlain 57 = .ok (.iload_n 2, 1) := by decide +kernel
theorem d_Mo_takePlain_58 : decode b_Mo_takePlain 58 = .ok (.if_icmp .ge 22, 3) := by decide +kernel
theorem d_Mo_takePlain_61 : decode b_Mo_takePlain 61 = .ok (.aload_n 0, 1) := by decide +kernel
theorem d_Mo_takePlain_62 : decode b_Mo_takePlain 62 = .ok (.getfield 36, 3) := by decide +kernel
theorem d_Mo_takePlain_65 : decode b_Mo_takePlain 65 = .ok (.aload_n 0, 1) := by decide +kernel
theorem d_Mo_takePlain_66 : decode b_Mo_takePlain 66 = .ok (.iload_n 1, 1) := by decide +kernel
theorem d_Mo_takePlain_67 : decode b_Mo_takePlain 67 = .ok (.iload_n 3, 1) := by decide +kernel
theorem d_Mo_takePlain_68 : decode b_Mo_takePlain 68 = .ok (.iload 5, 2) := by decide +kernel
theorem d_Mo_takePlain_70 : decode b_Mo_takePlain 70 = .ok (.iadd, 1) := by decide +kernel
theorem d_Mo_takePlain_71 : decode b_Mo_takePlain 71 = .ok (.invokevirtual 88, 3) := by decide +kernel
theorem d_Mo_takePlain_74 : decode b_Mo_takePlain 74 = .ok (.iload 6, 2) := by decide +kernel
theorem d_Mo_takePlain_76 : decode b_Mo_takePlain 76 = .ok (.iastore, 1) := by decide +kernel
theorem d_Mo_takePlain_77 : decode b_Mo_takePlain 77 = .ok (.goto 19, 3) := by decide +kernel
theorem d_Mo_takePlain_80 : decode b_Mo_takePlain 80 = .ok (.iload 6, 2) := by decide +kernel
theorem d_Mo_takePlain_82 : decode b_Mo_takePlain 82 = .ok (.iconst 1, 1) := by decide +kernel
theorem d_Mo_takePlain_83 : decode b_Mo_takePlain 83 = .ok (.if_icmp .ne 13, 3) := by decide +kernel
theorem d_Mo_takePlain_86 : decode b_Mo_takePlain 86 = .ok (.aload_n 0, 1) := by decide +kernel
theorem d_Mo_takePlain_87 : decode b_Mo_takePlain 87 = .ok (.aload_n 0, 1) := by decide +kernel
theorem d_Mo_takePlain_88 : decode b_Mo_takePlain 88 = .ok (.getfield 172, 3) := by decide +kernel
theorem d_Mo_takePlain_91 : decode b_Mo_takePlain 91 = .ok (.iconst 1, 1) := by decide +kernel
theorem d_Mo_takePlain_92 : decode b_Mo_takePlain 92 = .ok (.isub, 1) := by decide +kernel
theorem d_Mo_takePlain_93 : decode b_Mo_takePlain 93 = .ok (.invokevirtual 175, 3) := by decide +kernel
theorem d_Mo_takePlain_96 : decode b_Mo_takePlain 96 = .ok (.iinc 5 1, 3) := by decide +kernel
theorem d_Mo_takePlain_99 : decode b_Mo_takePlain 99 = .ok (.goto (-65), 3) := by decide +kernel
theorem d_Mo_takePlain_102 : decode b_Mo_takePlain 102 = .ok (.goto 19, 3) := by decide +kernel
theorem d_Mo_takePlain_105 : decode b_Mo_takePlain 105 = .ok (.aload_n 0, 1) := by decide +kernel
theorem d_Mo_takePlain_106 : decode b_Mo_takePlain 106 = .ok (.getfield 36, 3) := by decide +kernel
theorem d_Mo_takePlain_109 : decode b_Mo_takePlain 109 = .ok (.aload_n 0, 1) := by decide +kernel
theorem d_Mo_takePlain_110 : decode b_Mo_takePlain 110 = .ok (.iload_n 1, 1) := by decide +kernel
theorem d_Mo_takePlain_111 : decode b_Mo_takePlain 111 = .ok (.iload_n 3, 1) := by decide +kernel
theorem d_Mo_takePlain_112 : decode b_Mo_takePlain 112 = .ok (.invokevirtual 88, 3) := by decide +kernel
theorem d_Mo_takePlain_115 : decode b_Mo_takePlain 115 = .ok (.aload_n 0, 1) := by decide +kernel
theorem d_Mo_takePlain_116 : decode b_Mo_takePlain 116 = .ok (.iload_n 1, 1) := by decide +kernel
theorem d_Mo_takePlain_117 : decode b_Mo_takePlain 117 = .ok (.invokevirtual 185, 3) := by decide +kernel
theorem d_Mo_takePlain_120 : decode b_Mo_takePlain 120 = .ok (.iastore, 1) := by decide +kernel
theorem d_Mo_takePlain_121 : decode b_Mo_takePlain 121 = .ok (.iload_n 3, 1) := by decide +kernel
theorem d_Mo_takePlain_122 : decode b_Mo_takePlain 122 = .ok (.iload_n 1, 1) := by decide +kernel
theorem d_Mo_takePlain_123 : decode b_Mo_takePlain 123 = .ok (.iconst 1, 1) := by decide +kernel
theorem d_Mo_takePlain_124 : decode b_Mo_takePlain 124 = .ok (.if_icmp .ne 8, 3) := by decide +kernel
theorem d_Mo_takePlain_127 : decode b_Mo_takePlain 127 = .ok (.bipush 8, 2) := by decide +kernel
theorem d_Mo_takePlain_129 : decode b_Mo_takePlain 129 = .ok (.goto 4, 3) := by decide +kernel
theorem d_Mo_takePlain_132 : decode b_Mo_takePlain 132 = .ok (.iconst 1, 1) := by decide +kernel
theorem d_Mo_takePlain_133 : decode b_Mo_takePlain 133 = .ok (.iadd, 1) := by decide +kernel
theorem d_Mo_takePlain_134 : decode b_Mo_takePlain 134 = .ok (.istore_n 3, 1) := by decide +kernel
theorem d_Mo_takePlain_135 : decode b_Mo_takePlain 135 = .ok (.goto (-127), 3) := by decide +kernel
theorem d_Mo_takePlain_138 : decode b_Mo_takePlain 138 = .ok (.return_, 1) := by decide +kernel
abbrev b_Mo_takeRuns : ByteArray := prog_8_method_44_code
def y_Mo_takeRuns : MethodName := ⟨"MaskLayersModel", "takeRuns", "(I)V"⟩
theorem d_Mo_takeRuns_0 : decode b_Mo_takeRuns 0 = .ok (.aload_n 0, 1) := by decide +kernel
theorem d_Mo_takeRuns_1 : decode b_Mo_takeRuns 1 = .ok (.iload_n 1, 1) := by decide +kernel
theorem d_Mo_takeRuns_2 : decode b_Mo_takeRuns 2 = .ok (.invokevirtual 94, 3) := by decide +kernel
theorem d_Mo_takeRuns_5 : decode b_Mo_takeRuns 5 = .ok (.istore_n 2, 1) := by decide +kernel
theorem d_Mo_takeRuns_6 : decode b_Mo_takeRuns 6 = .ok (.iconst 0, 1) := by decide +kernel
theorem d_Mo_takeRuns_7 : decode b_Mo_takeRuns 7 = .ok (.istore_n 3, 1) := by decide +kernel
theorem d_Mo_takeRuns_8 : decode b_Mo_takeRuns 8 = .ok (.iload_n 3, 1) := by decide +kernel
theorem d_Mo_takeRuns_9 : decode b_Mo_takeRuns 9 = .ok (.iload_n 2, 1) := by decide +kernel
theorem d_Mo_takeRuns_10 : decode b_Mo_takeRuns 10 = .ok (.if_icmp .ge 74, 3) := by decide +kernel
theorem d_Mo_takeRuns_13 : decode b_Mo_takeRuns 13 = .ok (.aload_n 0, 1) := by decide +kernel
theorem d_Mo_takeRuns_14 : decode b_Mo_takeRuns 14 = .ok (.getfield 169, 3) := by decide +kernel
theorem d_Mo_takeRuns_17 : decode b_Mo_takeRuns 17 = .ok (.ifCond .ge 67, 3) := by decide +kernel
theorem d_Mo_takeRuns_20 : decode b_Mo_takeRuns 20 = .ok (.aload_n 0, 1) := by decide +kernel
theorem d_Mo_takeRuns_21 : decode b_Mo_takeRuns 21 = .ok (.iconst 1, 1) := by decide +kernel
theorem d_Mo_takeRuns_22 : decode b_Mo_takeRuns 22 = .ok (.iload_n 2, 1) := by decide +kernel
