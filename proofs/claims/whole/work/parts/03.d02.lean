theorem d_Maker_makeBlocks_92 : decode b_Maker_makeBlocks 92 = .ok (.iload 7, 2) := by decide +kernel
theorem d_Maker_makeBlocks_94 : decode b_Maker_makeBlocks 94 = .ok (.istore 7, 2) := by decide +kernel
theorem d_Maker_makeBlocks_96 : decode b_Maker_makeBlocks 96 = .ok (.iinc 6 1, 3) := by decide +kernel
theorem d_Maker_makeBlocks_99 : decode b_Maker_makeBlocks 99 = .ok (.iinc 9 1, 3) := by decide +kernel
theorem d_Maker_makeBlocks_102 : decode b_Maker_makeBlocks 102 = .ok (.goto (-44), 3) := by decide +kernel
theorem d_Maker_makeBlocks_105 : decode b_Maker_makeBlocks 105 = .ok (.iinc 8 1, 3) := by decide +kernel
theorem d_Maker_makeBlocks_108 : decode b_Maker_makeBlocks 108 = .ok (.goto (-60), 3) := by decide +kernel
theorem d_Maker_makeBlocks_111 : decode b_Maker_makeBlocks 111 = .ok (.iload 7, 2) := by decide +kernel
theorem d_Maker_makeBlocks_113 : decode b_Maker_makeBlocks 113 = .ok (.ireturn, 1) := by decide +kernel
abbrev b_Maker_fillBlocks : ByteArray := prog_4_method_8_code
def y_Maker_fillBlocks : MethodName := ⟨"MaskLayers$Maker", "fillBlocks", "(III)V"⟩
theorem d_Maker_fillBlocks_0 : decode b_Maker_fillBlocks 0 = .ok (.aload_n 0, 1) := by decide +kernel
theorem d_Maker_fillBlocks_1 : decode b_Maker_fillBlocks 1 = .ok (.getfield 9, 3) := by decide +kernel
theorem d_Maker_fillBlocks_4 : decode b_Maker_fillBlocks 4 = .ok (.getfield 85, 3) := by decide +kernel
theorem d_Maker_fillBlocks_7 : decode b_Maker_fillBlocks 7 = .ok (.iload_n 2, 1) := by decide +kernel
theorem d_Maker_fillBlocks_8 : decode b_Maker_fillBlocks 8 = .ok (.aaload, 1) := by decide +kernel
theorem d_Maker_fillBlocks_9 : decode b_Maker_fillBlocks 9 = .ok (.astore 4, 2) := by decide +kernel
theorem d_Maker_fillBlocks_11 : decode b_Maker_fillBlocks 11 = .ok (.aload_n 0, 1) := by decide +kernel
theorem d_Maker_fillBlocks_12 : decode b_Maker_fillBlocks 12 = .ok (.getfield 9, 3) := by decide +kernel
theorem d_Maker_fillBlocks_15 : decode b_Maker_fillBlocks 15 = .ok (.iload_n 1, 1) := by decide +kernel
theorem d_Maker_fillBlocks_16 : decode b_Maker_fillBlocks 16 = .ok (.iload_n 2, 1) := by decide +kernel
theorem d_Maker_fillBlocks_17 : decode b_Maker_fillBlocks 17 = .ok (.invokevirtual 89, 3) := by decide +kernel
theorem d_Maker_fillBlocks_20 : decode b_Maker_fillBlocks 20 = .ok (.istore 5, 2) := by decide +kernel
theorem d_Maker_fillBlocks_22 : decode b_Maker_fillBlocks 22 = .ok (.aload_n 0, 1) := by decide +kernel
theorem d_Maker_fillBlocks_23 : decode b_Maker_fillBlocks 23 = .ok (.getfield 9, 3) := by decide +kernel
theorem d_Maker_fillBlocks_26 : decode b_Maker_fillBlocks 26 = .ok (.getfield 92, 3) := by decide +kernel
theorem d_Maker_fillBlocks_29 : decode b_Maker_fillBlocks 29 = .ok (.iload_n 2, 1) := by decide +kernel
theorem d_Maker_fillBlocks_30 : decode b_Maker_fillBlocks 30 = .ok (.iaload, 1) := by decide +kernel
theorem d_Maker_fillBlocks_31 : decode b_Maker_fillBlocks 31 = .ok (.istore 6, 2) := by decide +kernel
theorem d_Maker_fillBlocks_33 : decode b_Maker_fillBlocks 33 = .ok (.aload_n 0, 1) := by decide +kernel
theorem d_Maker_fillBlocks_34 : decode b_Maker_fillBlocks 34 = .ok (.getfield 9, 3) := by decide +kernel
theorem d_Maker_fillBlocks_37 : decode b_Maker_fillBlocks 37 = .ok (.iload_n 1, 1) := by decide +kernel
theorem d_Maker_fillBlocks_38 : decode b_Maker_fillBlocks 38 = .ok (.invokevirtual 67, 3) := by decide +kernel
theorem d_Maker_fillBlocks_41 : decode b_Maker_fillBlocks 41 = .ok (.istore 7, 2) := by decide +kernel
theorem d_Maker_fillBlocks_43 : decode b_Maker_fillBlocks 43 = .ok (.iconst 0, 1) := by decide +kernel
theorem d_Maker_fillBlocks_44 : decode b_Maker_fillBlocks 44 = .ok (.istore 8, 2) := by decide +kernel
theorem d_Maker_fillBlocks_46 : decode b_Maker_fillBlocks 46 = .ok (.iload 8, 2) := by decide +kernel
theorem d_Maker_fillBlocks_48 : decode b_Maker_fillBlocks 48 = .ok (.iload 5, 2) := by decide +kernel
theorem d_Maker_fillBlocks_50 : decode b_Maker_fillBlocks 50 = .ok (.if_icmp .ge 100, 3) := by decide +kernel
theorem d_Maker_fillBlocks_53 : decode b_Maker_fillBlocks 53 = .ok (.iconst 0, 1) := by decide +kernel
theorem d_Maker_fillBlocks_54 : decode b_Maker_fillBlocks 54 = .ok (.istore 9, 2) := by decide +kernel
theorem d_Maker_fillBlocks_56 : decode b_Maker_fillBlocks 56 = .ok (.iload 9, 2) := by decide +kernel
theorem d_Maker_fillBlocks_58 : decode b_Maker_fillBlocks 58 = .ok (.iload 6, 2) := by decide +kernel
theorem d_Maker_fillBlocks_60 : decode b_Maker_fillBlocks 60 = .ok (.if_icmp .ge 84, 3) := by decide +kernel
theorem d_Maker_fillBlocks_63 : decode b_Maker_fillBlocks 63 = .ok (.aload 4, 2) := by decide +kernel
theorem d_Maker_fillBlocks_65 : decode b_Maker_fillBlocks 65 = .ok (.iload 7, 2) := by decide +kernel
theorem d_Maker_fillBlocks_67 : decode b_Maker_fillBlocks 67 = .ok (.iaload, 1) := by decide +kernel
theorem d_Maker_fillBlocks_68 : decode b_Maker_fillBlocks 68 = .ok (.iconst (-1), 1) := by decide +kernel
theorem d_Maker_fillBlocks_69 : decode b_Maker_fillBlocks 69 = .ok (.if_icmp .ne 66, 3) := by decide +kernel
theorem d_Maker_fillBlocks_72 : decode b_Maker_fillBlocks 72 = .ok (.iload 9, 2) := by decide +kernel
theorem d_Maker_fillBlocks_74 : decode b_Maker_fillBlocks 74 = .ok (.ifCond .le 13, 3) := by decide +kernel
theorem d_Maker_fillBlocks_77 : decode b_Maker_fillBlocks 77 = .ok (.aload 4, 2) := by decide +kernel
theorem d_Maker_fillBlocks_79 : decode b_Maker_fillBlocks 79 = .ok (.iload 7, 2) := by decide +kernel
theorem d_Maker_fillBlocks_81 : decode b_Maker_fillBlocks 81 = .ok (.iconst 1, 1) := by decide +kernel
theorem d_Maker_fillBlocks_82 : decode b_Maker_fillBlocks 82 = .ok (.isub, 1) := by decide +kernel
theorem d_Maker_fillBlocks_83 : decode b_Maker_fillBlocks 83 = .ok (.iaload, 1) := by decide +kernel
theorem d_Maker_fillBlocks_84 : decode b_Maker_fillBlocks 84 = .ok (.goto 4, 3) := by decide +kernel
theorem d_Maker_fillBlocks_87 : decode b_Maker_fillBlocks 87 = .ok (.iconst (-1), 1) := by decide +kernel
theorem d_Maker_fillBlocks_88 : decode b_Maker_fillBlocks 88 = .ok (.istore 10, 2) := by decide +kernel
theorem d_Maker_fillBlocks_90 : decode b_Maker_fillBlocks 90 = .ok (.iload 8, 2) := by decide +kernel
theorem d_Maker_fillBlocks_92 : decode b_Maker_fillBlocks 92 = .ok (.ifCond .le 14, 3) := by decide +kernel
theorem d_Maker_fillBlocks_95 : decode b_Maker_fillBlocks 95 = .ok (.aload 4, 2) := by decide +kernel
theorem d_Maker_fillBlocks_97 : decode b_Maker_fillBlocks 97 = .ok (.iload 7, 2) := by decide +kernel
theorem d_Maker_fillBlocks_99 : decode b_Maker_fillBlocks 99 = .ok (.iload 6, 2) := by decide +kernel
theorem d_Maker_fillBlocks_101 : decode b_Maker_fillBlocks 101 = .ok (.isub, 1) := by decide +kernel
theorem d_Maker_fillBlocks_102 : decode b_Maker_fillBlocks 102 = .ok (.iaload, 1) := by decide +kernel
theorem d_Maker_fillBlocks_103 : decode b_Maker_fillBlocks 103 = .ok (.goto 4, 3) := by decide +kernel
theorem d_Maker_fillBlocks_106 : decode b_Maker_fillBlocks 106 = .ok (.iconst (-1), 1) := by decide +kernel
theorem d_Maker_fillBlocks_107 : decode b_Maker_fillBlocks 107 = .ok (.istore 11, 2) := by decide +kernel
theorem d_Maker_fillBlocks_109 : decode b_Maker_fillBlocks 109 = .ok (.aload 4, 2) := by decide +kernel
theorem d_Maker_fillBlocks_111 : decode b_Maker_fillBlocks 111 = .ok (.iload 7, 2) := by decide +kernel
theorem d_Maker_fillBlocks_113 : decode b_Maker_fillBlocks 113 = .ok (.iload 10, 2) := by decide +kernel
theorem d_Maker_fillBlocks_115 : decode b_Maker_fillBlocks 115 = .ok (.iload 11, 2) := by decide +kernel
theorem d_Maker_fillBlocks_117 : decode b_Maker_fillBlocks 117 = .ok (.iload_n 3, 1) := by decide +kernel
theorem d_Maker_fillBlocks_118 : decode b_Maker_fillBlocks 118 = .ok (.invokestatic 131, 3) := by decide +kernel
theorem d_Maker_fillBlocks_121 : decode b_Maker_fillBlocks 121 = .ok (.iastore, 1) := by decide +kernel
theorem d_Maker_fillBlocks_122 : decode b_Maker_fillBlocks 122 = .ok (.aload_n 0, 1) := by decide +kernel
theorem d_Maker_fillBlocks_123 : decode b_Maker_fillBlocks 123 = .ok (.getfield 22, 3) := by decide +kernel
theorem d_Maker_fillBlocks_126 : decode b_Maker_fillBlocks 126 = .ok (.iload 7, 2) := by decide +kernel
theorem d_Maker_fillBlocks_128 : decode b_Maker_fillBlocks 128 = .ok (.dup2, 1) := by decide +kernel
theorem d_Maker_fillBlocks_129 : decode b_Maker_fillBlocks 129 = .ok (.iaload, 1) := by decide +kernel
theorem d_Maker_fillBlocks_130 : decode b_Maker_fillBlocks 130 = .ok (.iconst 1, 1) := by decide +kernel
theorem d_Maker_fillBlocks_131 : decode b_Maker_fillBlocks 131 = .ok (.iload_n 2, 1) := by decide +kernel
theorem d_Maker_fillBlocks_132 : decode b_Maker_fillBlocks 132 = .ok (.ishl, 1) := by decide +kernel
theorem d_Maker_fillBlocks_133 : decode b_Maker_fillBlocks 133 = .ok (.ior, 1) := by decide +kernel
theorem d_Maker_fillBlocks_134 : decode b_Maker_fillBlocks 134 = .ok (.iastore, 1) := by decide +kernel
theorem d_Maker_fillBlocks_135 : decode b_Maker_fillBlocks 135 = .ok (.iinc 7 1, 3) := by decide +kernel
theorem d_Maker_fillBlocks_138 : decode b_Maker_fillBlocks 138 = .ok (.iinc 9 1, 3) := by decide +kernel
theorem d_Maker_fillBlocks_141 : decode b_Maker_fillBlocks 141 = .ok (.goto (-85), 3) := by decide +kernel
theorem d_Maker_fillBlocks_144 : decode b_Maker_fillBlocks 144 = .ok (.iinc 8 1, 3) := by decide +kernel
theorem d_Maker_fillBlocks_147 : decode b_Maker_fillBlocks 147 = .ok (.goto (-101), 3) := by decide +kernel
theorem d_Maker_fillBlocks_150 : decode b_Maker_fillBlocks 150 = .ok (.return_, 1) := by decide +kernel
abbrev b_Maker_makeRest : ByteArray := prog_4_method_10_code
def y_Maker_makeRest : MethodName := ⟨"MaskLayers$Maker", "makeRest", "(I)Z"⟩
theorem d_Maker_makeRest_0 : decode b_Maker_makeRest 0 = .ok (.iconst 0, 1) := by decide +kernel
theorem d_Maker_makeRest_1 : decode b_Maker_makeRest 1 = .ok (.istore_n 2, 1) := by decide +kernel
theorem d_Maker_makeRest_2 : decode b_Maker_makeRest 2 = .ok (.aload_n 0, 1) := by decide +kernel
theorem d_Maker_makeRest_3 : decode b_Maker_makeRest 3 = .ok (.getfield 9, 3) := by decide +kernel
theorem d_Maker_makeRest_6 : decode b_Maker_makeRest 6 = .ok (.iload_n 1, 1) := by decide +kernel
theorem d_Maker_makeRest_7 : decode b_Maker_makeRest 7 = .ok (.invokevirtual 67, 3) := by decide +kernel
theorem d_Maker_makeRest_10 : decode b_Maker_makeRest 10 = .ok (.istore_n 3, 1) := by decide +kernel
theorem d_Maker_makeRest_11 : decode b_Maker_makeRest 11 = .ok (.aload_n 0, 1) := by decide +kernel
theorem d_Maker_makeRest_12 : decode b_Maker_makeRest 12 = .ok (.getfield 9, 3) := by decide +kernel
theorem d_Maker_makeRest_15 : decode b_Maker_makeRest 15 = .ok (.iload_n 1, 1) := by decide +kernel
theorem d_Maker_makeRest_16 : decode b_Maker_makeRest 16 = .ok (.invokevirtual 105, 3) := by decide +kernel
theorem d_Maker_makeRest_19 : decode b_Maker_makeRest 19 = .ok (.istore 4, 2) := by decide +kernel
theorem d_Maker_makeRest_21 : decode b_Maker_makeRest 21 = .ok (.aload_n 0, 1) := by decide +kernel
theorem d_Maker_makeRest_22 : decode b_Maker_makeRest 22 = .ok (.getfield 9, 3) := by decide +kernel
theorem d_Maker_makeRest_25 : decode b_Maker_makeRest 25 = .ok (.iload_n 1, 1) := by decide +kernel
theorem d_Maker_makeRest_26 : decode b_Maker_makeRest 26 = .ok (.invokevirtual 102, 3) := by decide +kernel
theorem d_Maker_makeRest_29 : decode b_Maker_makeRest 29 = .ok (.istore 5, 2) := by decide +kernel
theorem d_Maker_makeRest_31 : decode b_Maker_makeRest 31 = .ok (.iload 5, 2) := by decide +kernel
theorem d_Maker_makeRest_33 : decode b_Maker_makeRest 33 = .ok (.iload 4, 2) := by decide +kernel
theorem d_Maker_makeRest_35 : decode b_Maker_makeRest 35 = .ok (.if_icmp .ge 117, 3) := by decide +kernel
theorem d_Maker_makeRest_38 : decode b_Maker_makeRest 38 = .ok (.iconst 0, 1) := by decide +kernel
theorem d_Maker_makeRest_39 : decode b_Maker_makeRest 39 = .ok (.istore 6, 2) := by decide +kernel
theorem d_Maker_makeRest_41 : decode b_Maker_makeRest 41 = .ok (.iload 6, 2) := by decide +kernel
theorem d_Maker_makeRest_43 : decode b_Maker_makeRest 43 = .ok (.aload_n 0, 1) := by decide +kernel
theorem d_Maker_makeRest_44 : decode b_Maker_makeRest 44 = .ok (.getfield 9, 3) := by decide +kernel
theorem d_Maker_makeRest_47 : decode b_Maker_makeRest 47 = .ok (.getfield 113, 3) := by decide +kernel
theorem d_Maker_makeRest_50 : decode b_Maker_makeRest 50 = .ok (.if_icmp .ge 96, 3) := by decide +kernel
theorem d_Maker_makeRest_53 : decode b_Maker_makeRest 53 = .ok (.aload_n 0, 1) := by decide +kernel
theorem d_Maker_makeRest_54 : decode b_Maker_makeRest 54 = .ok (.getfield 19, 3) := by decide +kernel
theorem d_Maker_makeRest_57 : decode b_Maker_makeRest 57 = .ok (.iload_n 3, 1) := by decide +kernel
theorem d_Maker_makeRest_58 : decode b_Maker_makeRest 58 = .ok (.iaload, 1) := by decide +kernel
theorem d_Maker_makeRest_59 : decode b_Maker_makeRest 59 = .ok (.iconst 1, 1) := by decide +kernel
theorem d_Maker_makeRest_60 : decode b_Maker_makeRest 60 = .ok (.if_icmp .ne 7, 3) := by decide +kernel
theorem d_Maker_makeRest_63 : decode b_Maker_makeRest 63 = .ok (.iconst 2, 1) := by decide +kernel
theorem d_Maker_makeRest_64 : decode b_Maker_makeRest 64 = .ok (.goto 4, 3) := by decide +kernel
theorem d_Maker_makeRest_67 : decode b_Maker_makeRest 67 = .ok (.iconst 0, 1) := by decide +kernel
theorem d_Maker_makeRest_68 : decode b_Maker_makeRest 68 = .ok (.istore 7, 2) := by decide +kernel
theorem d_Maker_makeRest_70 : decode b_Maker_makeRest 70 = .ok (.aload_n 0, 1) := by decide +kernel
theorem d_Maker_makeRest_71 : decode b_Maker_makeRest 71 = .ok (.getfield 9, 3) := by decide +kernel
theorem d_Maker_makeRest_74 : decode b_Maker_makeRest 74 = .ok (.getfield 85, 3) := by decide +kernel
theorem d_Maker_makeRest_77 : decode b_Maker_makeRest 77 = .ok (.iload 7, 2) := by decide +kernel
theorem d_Maker_makeRest_79 : decode b_Maker_makeRest 79 = .ok (.aaload, 1) := by decide +kernel
theorem d_Maker_makeRest_80 : decode b_Maker_makeRest 80 = .ok (.aload_n 0, 1) := by decide +kernel
theorem d_Maker_makeRest_81 : decode b_Maker_makeRest 81 = .ok (.getfield 9, 3) := by decide +kernel
theorem d_Maker_makeRest_84 : decode b_Maker_makeRest 84 = .ok (.iload 7, 2) := by decide +kernel
theorem d_Maker_makeRest_86 : decode b_Maker_makeRest 86 = .ok (.iload 6, 2) := by decide +kernel
theorem d_Maker_makeRest_88 : decode b_Maker_makeRest 88 = .ok (.iload 5, 2) := by decide +kernel
theorem d_Maker_makeRest_90 : decode b_Maker_makeRest 90 = .ok (.invokevirtual 56, 3) := by decide +kernel
theorem d_Maker_makeRest_93 : decode b_Maker_makeRest 93 = .ok (.iaload, 1) := by decide +kernel
theorem d_Maker_makeRest_94 : decode b_Maker_makeRest 94 = .ok (.istore 8, 2) := by decide +kernel
theorem d_Maker_makeRest_96 : decode b_Maker_makeRest 96 = .ok (.aload_n 0, 1) := by decide +kernel
theorem d_Maker_makeRest_97 : decode b_Maker_makeRest 97 = .ok (.getfield 15, 3) := by decide +kernel
theorem d_Maker_makeRest_100 : decode b_Maker_makeRest 100 = .ok (.iload_n 3, 1) := by decide +kernel
theorem d_Maker_makeRest_101 : decode b_Maker_makeRest 101 = .ok (.iaload, 1) := by decide +kernel
theorem d_Maker_makeRest_102 : decode b_Maker_makeRest 102 = .ok (.iload 8, 2) := by decide +kernel
theorem d_Maker_makeRest_104 : decode b_Maker_makeRest 104 = .ok (.invokestatic 137, 3) := by decide +kernel
theorem d_Maker_makeRest_107 : decode b_Maker_makeRest 107 = .ok (.istore 9, 2) := by decide +kernel
theorem d_Maker_makeRest_109 : decode b_Maker_makeRest 109 = .ok (.aload_n 0, 1) := by decide +kernel
theorem d_Maker_makeRest_110 : decode b_Maker_makeRest 110 = .ok (.getfield 9, 3) := by decide +kernel
theorem d_Maker_makeRest_113 : decode b_Maker_makeRest 113 = .ok (.getfield 85, 3) := by decide +kernel
theorem d_Maker_makeRest_116 : decode b_Maker_makeRest 116 = .ok (.iconst 3, 1) := by decide +kernel
theorem d_Maker_makeRest_117 : decode b_Maker_makeRest 117 = .ok (.aaload, 1) := by decide +kernel
theorem d_Maker_makeRest_118 : decode b_Maker_makeRest 118 = .ok (.iload_n 3, 1) := by decide +kernel
theorem d_Maker_makeRest_119 : decode b_Maker_makeRest 119 = .ok (.iload 9, 2) := by decide +kernel
theorem d_Maker_makeRest_121 : decode b_Maker_makeRest 121 = .ok (.iastore, 1) := by decide +kernel
theorem d_Maker_makeRest_122 : decode b_Maker_makeRest 122 = .ok (.iload_n 2, 1) := by decide +kernel
theorem d_Maker_makeRest_123 : decode b_Maker_makeRest 123 = .ok (.ifCond .ne 8, 3) := by decide +kernel
theorem d_Maker_makeRest_126 : decode b_Maker_makeRest 126 = .ok (.iload 9, 2) := by decide +kernel
theorem d_Maker_makeRest_128 : decode b_Maker_makeRest 128 = .ok (.ifCond .eq 7, 3) := by decide +kernel
theorem d_Maker_makeRest_131 : decode b_Maker_makeRest 131 = .ok (.iconst 1, 1) := by decide +kernel
theorem d_Maker_makeRest_132 : decode b_Maker_makeRest 132 = .ok (.goto 4, 3) := by decide +kernel
theorem d_Maker_makeRest_135 : decode b_Maker_makeRest 135 = .ok (.iconst 0, 1) := by decide +kernel
theorem d_Maker_makeRest_136 : decode b_Maker_makeRest 136 = .ok (.istore_n 2, 1) := by decide +kernel
theorem d_Maker_makeRest_137 : decode b_Maker_makeRest 137 = .ok (.iinc 3 1, 3) := by decide +kernel
theorem d_Maker_makeRest_140 : decode b_Maker_makeRest 140 = .ok (.iinc 6 1, 3) := by decide +kernel
theorem d_Maker_makeRest_143 : decode b_Maker_makeRest 143 = .ok (.goto (-102), 3) := by decide +kernel
theorem d_Maker_makeRest_146 : decode b_Maker_makeRest 146 = .ok (.iinc 5 1, 3) := by decide +kernel
theorem d_Maker_makeRest_149 : decode b_Maker_makeRest 149 = .ok (.goto (-118), 3) := by decide +kernel
theorem d_Maker_makeRest_152 : decode b_Maker_makeRest 152 = .ok (.iload_n 2, 1) := by decide +kernel
theorem d_Maker_makeRest_153 : decode b_Maker_makeRest 153 = .ok (.ireturn, 1) := by decide +kernel
abbrev b_Maker_makeStripe : ByteArray := prog_4_method_4_code
def y_Maker_makeStripe : MethodName := ⟨"MaskLayers$Maker", "makeStripe", "(IZ)V"⟩
theorem d_Maker_makeStripe_0 : decode b_Maker_makeStripe 0 = .ok (.aload_n 0, 1) := by decide +kernel
theorem d_Maker_makeStripe_1 : decode b_Maker_makeStripe 1 = .ok (.iload_n 1, 1) := by decide +kernel
theorem d_Maker_makeStripe_2 : decode b_Maker_makeStripe 2 = .ok (.invokevirtual 60, 3) := by decide +kernel
theorem d_Maker_makeStripe_5 : decode b_Maker_makeStripe 5 = .ok (.istore_n 3, 1) := by decide +kernel
theorem d_Maker_makeStripe_6 : decode b_Maker_makeStripe 6 = .ok (.iload_n 3, 1) := by decide +kernel
theorem d_Maker_makeStripe_7 : decode b_Maker_makeStripe 7 = .ok (.aload_n 0, 1) := by decide +kernel
theorem d_Maker_makeStripe_8 : decode b_Maker_makeStripe 8 = .ok (.getfield 9, 3) := by decide +kernel
theorem d_Maker_makeStripe_11 : decode b_Maker_makeStripe 11 = .ok (.iload_n 1, 1) := by decide +kernel
theorem d_Maker_makeStripe_12 : decode b_Maker_makeStripe 12 = .ok (.iconst 1, 1) := by decide +kernel
theorem d_Maker_makeStripe_13 : decode b_Maker_makeStripe 13 = .ok (.invokevirtual 63, 3) := by decide +kernel
theorem d_Maker_makeStripe_16 : decode b_Maker_makeStripe 16 = .ok (.aload_n 0, 1) := by decide +kernel
theorem d_Maker_makeStripe_17 : decode b_Maker_makeStripe 17 = .ok (.getfield 9, 3) := by decide +kernel
theorem d_Maker_makeStripe_20 : decode b_Maker_makeStripe 20 = .ok (.iload_n 1, 1) := by decide +kernel
theorem d_Maker_makeStripe_21 : decode b_Maker_makeStripe 21 = .ok (.invokevirtual 67, 3) := by decide +kernel
theorem d_Maker_makeStripe_24 : decode b_Maker_makeStripe 24 = .ok (.isub, 1) := by decide +kernel
theorem d_Maker_makeStripe_25 : decode b_Maker_makeStripe 25 = .ok (.if_icmp .ge 24, 3) := by decide +kernel
theorem d_Maker_makeStripe_28 : decode b_Maker_makeStripe 28 = .ok (.aload_n 0, 1) := by decide +kernel
theorem d_Maker_makeStripe_29 : decode b_Maker_makeStripe 29 = .ok (.iload_n 1, 1) := by decide +kernel
theorem d_Maker_makeStripe_30 : decode b_Maker_makeStripe 30 = .ok (.iconst 0, 1) := by decide +kernel
theorem d_Maker_makeStripe_31 : decode b_Maker_makeStripe 31 = .ok (.aload_n 0, 1) := by decide +kernel
theorem d_Maker_makeStripe_32 : decode b_Maker_makeStripe 32 = .ok (.iload_n 1, 1) := by decide +kernel
theorem d_Maker_makeStripe_33 : decode b_Maker_makeStripe 33 = .ok (.iconst 0, 1) := by decide +kernel
theorem d_Maker_makeStripe_34 : decode b_Maker_makeStripe 34 = .ok (.invokevirtual 70, 3) := by decide +kernel
theorem d_Maker_makeStripe_37 : decode b_Maker_makeStripe 37 = .ok (.invokevirtual 73, 3) := by decide +kernel
theorem d_Maker_makeStripe_40 : decode b_Maker_makeStripe 40 = .ok (.aload_n 0, 1) := by decide +kernel
theorem d_Maker_makeStripe_41 : decode b_Maker_makeStripe 41 = .ok (.getfield 9, 3) := by decide +kernel
theorem d_Maker_makeStripe_44 : decode b_Maker_makeStripe 44 = .ok (.iload_n 1, 1) := by decide +kernel
theorem d_Maker_makeStripe_45 : decode b_Maker_makeStripe 45 = .ok (.iconst 0, 1) := by decide +kernel
theorem d_Maker_makeStripe_46 : decode b_Maker_makeStripe 46 = .ok (.invokevirtual 77, 3) := by decide +kernel
theorem d_Maker_makeStripe_49 : decode b_Maker_makeStripe 49 = .ok (.iload_n 3, 1) := by decide +kernel
theorem d_Maker_makeStripe_50 : decode b_Maker_makeStripe 50 = .ok (.ifCond .le 33, 3) := by decide +kernel
theorem d_Maker_makeStripe_53 : decode b_Maker_makeStripe 53 = .ok (.aload_n 0, 1) := by decide +kernel
theorem d_Maker_makeStripe_54 : decode b_Maker_makeStripe 54 = .ok (.getfield 9, 3) := by decide +kernel
theorem d_Maker_makeStripe_57 : decode b_Maker_makeStripe 57 = .ok (.iload_n 1, 1) := by decide +kernel
theorem d_Maker_makeStripe_58 : decode b_Maker_makeStripe 58 = .ok (.iconst 1, 1) := by decide +kernel
theorem d_Maker_makeStripe_59 : decode b_Maker_makeStripe 59 = .ok (.invokevirtual 77, 3) := by decide +kernel
theorem d_Maker_makeStripe_62 : decode b_Maker_makeStripe 62 = .ok (.aload_n 0, 1) := by decide +kernel
theorem d_Maker_makeStripe_63 : decode b_Maker_makeStripe 63 = .ok (.iload_n 1, 1) := by decide +kernel
theorem d_Maker_makeStripe_64 : decode b_Maker_makeStripe 64 = .ok (.iconst 2, 1) := by decide +kernel
theorem d_Maker_makeStripe_65 : decode b_Maker_makeStripe 65 = .ok (.aload_n 0, 1) := by decide +kernel
theorem d_Maker_makeStripe_66 : decode b_Maker_makeStripe 66 = .ok (.iload_n 1, 1) := by decide +kernel
theorem d_Maker_makeStripe_67 : decode b_Maker_makeStripe 67 = .ok (.iconst 2, 1) := by decide +kernel
theorem d_Maker_makeStripe_68 : decode b_Maker_makeStripe 68 = .ok (.invokevirtual 70, 3) := by decide +kernel
theorem d_Maker_makeStripe_71 : decode b_Maker_makeStripe 71 = .ok (.invokevirtual 73, 3) := by decide +kernel
theorem d_Maker_makeStripe_74 : decode b_Maker_makeStripe 74 = .ok (.aload_n 0, 1) := by decide +kernel
theorem d_Maker_makeStripe_75 : decode b_Maker_makeStripe 75 = .ok (.getfield 9, 3) := by decide +kernel
theorem d_Maker_makeStripe_78 : decode b_Maker_makeStripe 78 = .ok (.iload_n 1, 1) := by decide +kernel
theorem d_Maker_makeStripe_79 : decode b_Maker_makeStripe 79 = .ok (.iconst 2, 1) := by decide +kernel
theorem d_Maker_makeStripe_80 : decode b_Maker_makeStripe 80 = .ok (.invokevirtual 77, 3) := by decide +kernel
theorem d_Maker_makeStripe_83 : decode b_Maker_makeStripe 83 = .ok (.iload_n 2, 1) := by decide +kernel
theorem d_Maker_makeStripe_84 : decode b_Maker_makeStripe 84 = .ok (.ifCond .eq 20, 3) := by decide +kernel
theorem d_Maker_makeStripe_87 : decode b_Maker_makeStripe 87 = .ok (.aload_n 0, 1) := by decide +kernel
theorem d_Maker_makeStripe_88 : decode b_Maker_makeStripe 88 = .ok (.iload_n 1, 1) := by decide +kernel
theorem d_Maker_makeStripe_89 : decode b_Maker_makeStripe 89 = .ok (.invokevirtual 81, 3) := by decide +kernel
theorem d_Maker_makeStripe_92 : decode b_Maker_makeStripe 92 = .ok (.ifCond .eq 12, 3) := by decide +kernel
theorem d_Maker_makeStripe_95 : decode b_Maker_makeStripe 95 = .ok (.aload_n 0, 1) := by decide +kernel
theorem d_Maker_makeStripe_96 : decode b_Maker_makeStripe 96 = .ok (.getfield 9, 3) := by decide +kernel
theorem d_Maker_makeStripe_99 : decode b_Maker_makeStripe 99 = .ok (.iload_n 1, 1) := by decide +kernel
theorem d_Maker_makeStripe_100 : decode b_Maker_makeStripe 100 = .ok (.iconst 3, 1) := by decide +kernel
theorem d_Maker_makeStripe_101 : decode b_Maker_makeStripe 101 = .ok (.invokevirtual 77, 3) := by decide +kernel
theorem d_Maker_makeStripe_104 : decode b_Maker_makeStripe 104 = .ok (.return_, 1) := by decide +kernel
abbrev b_Maker_makeAll : ByteArray := prog_4_method_2_code
def y_Maker_makeAll : MethodName := ⟨"MaskLayers$Maker", "makeAll", "(Z)I"⟩
theorem d_Maker_makeAll_0 : decode b_Maker_makeAll 0 = .ok (.aload_n 0, 1) := by decide +kernel
theorem d_Maker_makeAll_1 : decode b_Maker_makeAll 1 = .ok (.getfield 9, 3) := by decide +kernel
theorem d_Maker_makeAll_4 : decode b_Maker_makeAll 4 = .ok (.invokevirtual 25, 3) := by decide +kernel
theorem d_Maker_makeAll_7 : decode b_Maker_makeAll 7 = .ok (.aload_n 0, 1) := by decide +kernel
theorem d_Maker_makeAll_8 : decode b_Maker_makeAll 8 = .ok (.getfield 22, 3) := by decide +kernel
theorem d_Maker_makeAll_11 : decode b_Maker_makeAll 11 = .ok (.iconst 0, 1) := by decide +kernel
theorem d_Maker_makeAll_12 : decode b_Maker_makeAll 12 = .ok (.invokestatic 30, 3) := by decide +kernel
theorem d_Maker_makeAll_15 : decode b_Maker_makeAll 15 = .ok (.iconst 0, 1) := by decide +kernel
theorem d_Maker_makeAll_16 : decode b_Maker_makeAll 16 = .ok (.istore_n 2, 1) := by decide +kernel
theorem d_Maker_makeAll_17 : decode b_Maker_makeAll 17 = .ok (.iload_n 2, 1) := by decide +kernel
theorem d_Maker_makeAll_18 : decode b_Maker_makeAll 18 = .ok (.aload_n 0, 1) := by decide +kernel
theorem d_Maker_makeAll_19 : decode b_Maker_makeAll 19 = .ok (.getfield 9, 3) := by decide +kernel
theorem d_Maker_makeAll_22 : decode b_Maker_makeAll 22 = .ok (.invokevirtual 36, 3) := by decide +kernel
theorem d_Maker_makeAll_25 : decode b_Maker_makeAll 25 = .ok (.if_icmp .ge 15, 3) := by decide +kernel
theorem d_Maker_makeAll_28 : decode b_Maker_makeAll 28 = .ok (.aload_n 0, 1) := by decide +kernel
theorem d_Maker_makeAll_29 : decode b_Maker_makeAll 29 = .ok (.iload_n 2, 1) := by decide +kernel
theorem d_Maker_makeAll_30 : decode b_Maker_makeAll 30 = .ok (.iload_n 1, 1) := by decide +kernel
theorem d_Maker_makeAll_31 : decode b_Maker_makeAll 31 = .ok (.invokevirtual 40, 3) := by decide +kernel
theorem d_Maker_makeAll_34 : decode b_Maker_makeAll 34 = .ok (.iinc 2 1, 3) := by decide +kernel
theorem d_Maker_makeAll_37 : decode b_Maker_makeAll 37 = .ok (.goto (-20), 3) := by decide +kernel
theorem d_Maker_makeAll_40 : decode b_Maker_makeAll 40 = .ok (.aload_n 0, 1) := by decide +kernel
theorem d_Maker_makeAll_41 : decode b_Maker_makeAll 41 = .ok (.getfield 9, 3) := by decide +kernel
theorem d_Maker_makeAll_44 : decode b_Maker_makeAll 44 = .ok (.getfield 44, 3) := by decide +kernel
theorem d_Maker_makeAll_47 : decode b_Maker_makeAll 47 = .ok (.ireturn, 1) := by decide +kernel
abbrev b_Writer_runEnds : ByteArray := prog_6_method_6_code
def y_Writer_runEnds : MethodName := ⟨"MaskLayers$Writer", "runEnds", "([IIII)Z"⟩
theorem d_Writer_runEnds_0 : decode b_Writer_runEnds 0 = .ok (.iload_n 1, 1) := by decide +kernel
theorem d_Writer_runEnds_1 : decode b_Writer_runEnds 1 = .ok (.iconst 1, 1) := by decide +kernel
theorem d_Writer_runEnds_2 : decode b_Writer_runEnds 2 = .ok (.iadd, 1) := by decide +kernel
theorem d_Writer_runEnds_3 : decode b_Writer_runEnds 3 = .ok (.iload_n 2, 1) := by decide +kernel
theorem d_Writer_runEnds_4 : decode b_Writer_runEnds 4 = .ok (.if_icmp .ge 21, 3) := by decide +kernel
theorem d_Writer_runEnds_7 : decode b_Writer_runEnds 7 = .ok (.iload_n 3, 1) := by decide +kernel
theorem d_Writer_runEnds_8 : decode b_Writer_runEnds 8 = .ok (.sipush 255, 3) := by decide +kernel
theorem d_Writer_runEnds_11 : decode b_Writer_runEnds 11 = .ok (.if_icmp .ge 14, 3) := by decide +kernel
theorem d_Writer_runEnds_14 : decode b_Writer_runEnds 14 = .ok (.aload_n 0, 1) := by decide +kernel
theorem d_Writer_runEnds_15 : decode b_Writer_runEnds 15 = .ok (.iload_n 1, 1) := by decide +kernel
theorem d_Writer_runEnds_16 : decode b_Writer_runEnds 16 = .ok (.iconst 1, 1) := by decide +kernel
theorem d_Writer_runEnds_17 : decode b_Writer_runEnds 17 = .ok (.iadd, 1) := by decide +kernel
theorem d_Writer_runEnds_18 : decode b_Writer_runEnds 18 = .ok (.iaload, 1) := by decide +kernel
theorem d_Writer_runEnds_19 : decode b_Writer_runEnds 19 = .ok (.aload_n 0, 1) := by decide +kernel
theorem d_Writer_runEnds_20 : decode b_Writer_runEnds 20 = .ok (.iload_n 1, 1) := by decide +kernel
theorem d_Writer_runEnds_21 : decode b_Writer_runEnds 21 = .ok (.iaload, 1) := by decide +kernel
theorem d_Writer_runEnds_22 : decode b_Writer_runEnds 22 = .ok (.if_icmp .eq 7, 3) := by decide +kernel
theorem d_Writer_runEnds_25 : decode b_Writer_runEnds 25 = .ok (.iconst 1, 1) := by decide +kernel
theorem d_Writer_runEnds_26 : decode b_Writer_runEnds 26 = .ok (.goto 4, 3) := by decide +kernel
theorem d_Writer_runEnds_29 : decode b_Writer_runEnds 29 = .ok (.iconst 0, 1) := by decide +kernel
theorem d_Writer_runEnds_30 : decode b_Writer_runEnds 30 = .ok (.ireturn, 1) := by decide +kernel
abbrev b_Writer_countRuns : ByteArray := prog_6_method_5_code
def y_Writer_countRuns : MethodName := ⟨"MaskLayers$Writer", "countRuns", "([III)I"⟩
theorem d_Writer_countRuns_0 : decode b_Writer_countRuns 0 = .ok (.iconst 0, 1) := by decide +kernel
theorem d_Writer_countRuns_1 : decode b_Writer_countRuns 1 = .ok (.istore_n 3, 1) := by decide +kernel
theorem d_Writer_countRuns_2 : decode b_Writer_countRuns 2 = .ok (.iconst 0, 1) := by decide +kernel
theorem d_Writer_countRuns_3 : decode b_Writer_countRuns 3 = .ok (.istore 4, 2) := by decide +kernel
theorem d_Writer_countRuns_5 : decode b_Writer_countRuns 5 = .ok (.iload_n 1, 1) := by decide +kernel
theorem d_Writer_countRuns_6 : decode b_Writer_countRuns 6 = .ok (.istore 5, 2) := by decide +kernel
theorem d_Writer_countRuns_8 : decode b_Writer_countRuns 8 = .ok (.iload 5, 2) := by decide +kernel
theorem d_Writer_countRuns_10 : decode b_Writer_countRuns 10 = .ok (.iload_n 2, 1) := by decide +kernel
theorem d_Writer_countRuns_11 : decode b_Writer_countRuns 11 = .ok (.if_icmp .ge 30, 3) := by decide +kernel
theorem d_Writer_countRuns_14 : decode b_Writer_countRuns 14 = .ok (.iinc 4 1, 3) := by decide +kernel
theorem d_Writer_countRuns_17 : decode b_Writer_countRuns 17 = .ok (.aload_n 0, 1) := by decide +kernel
theorem d_Writer_countRuns_18 : decode b_Writer_countRuns 18 = .ok (.iload 5, 2) := by decide +kernel
theorem d_Writer_countRuns_20 : decode b_Writer_countRuns 20 = .ok (.iload_n 2, 1) := by decide +kernel
theorem d_Writer_countRuns_21 : decode b_Writer_countRuns 21 = .ok (.iload 4, 2) := by decide +kernel
theorem d_Writer_countRuns_23 : decode b_Writer_countRuns 23 = .ok (.invokestatic 96, 3) := by decide +kernel
theorem d_Writer_countRuns_26 : decode b_Writer_countRuns 26 = .ok (.ifCond .eq 9, 3) := by decide +kernel
theorem d_Writer_countRuns_29 : decode b_Writer_countRuns 29 = .ok (.iinc 3 1, 3) := by decide +kernel
theorem d_Writer_countRuns_32 : decode b_Writer_countRuns 32 = .ok (.iconst 0, 1) := by decide +kernel
theorem d_Writer_countRuns_33 : decode b_Writer_countRuns 33 = .ok (.istore 4, 2) := by decide +kernel
theorem d_Writer_countRuns_35 : decode b_Writer_countRuns 35 = .ok (.iinc 5 1, 3) := by decide +kernel
theorem d_Writer_countRuns_38 : decode b_Writer_countRuns 38 = .ok (.goto (-30), 3) := by decide +kernel
theorem d_Writer_countRuns_41 : decode b_Writer_countRuns 41 = .ok (.iload_n 3, 1) := by decide +kernel
theorem d_Writer_countRuns_42 : decode b_Writer_countRuns 42 = .ok (.ireturn, 1) := by decide +kernel
abbrev b_Reader_mayEnd : ByteArray := prog_5_method_7_code
def y_Reader_mayEnd : MethodName := ⟨"MaskLayers$Reader", "mayEnd", "(I)Z"⟩
theorem d_Reader_mayEnd_0 : decode b_Reader_mayEnd 0 = .ok (.aload_n 0, 1) := by decide +kernel
theorem d_Reader_mayEnd_1 : decode b_Reader_mayEnd 1 = .ok (.getfield 15, 3) := by decide +kernel
theorem d_Reader_mayEnd_4 : decode b_Reader_mayEnd 4 = .ok (.iload_n 1, 1) := by decide +kernel
theorem d_Reader_mayEnd_5 : decode b_Reader_mayEnd 5 = .ok (.iconst 2, 1) := by decide +kernel
theorem d_Reader_mayEnd_6 : decode b_Reader_mayEnd 6 = .ok (.invokevirtual 83, 3) := by decide +kernel
theorem d_Reader_mayEnd_9 : decode b_Reader_mayEnd 9 = .ok (.ifCond .ne 27, 3) := by decide +kernel
theorem d_Reader_mayEnd_12 : decode b_Reader_mayEnd 12 = .ok (.aload_n 0, 1) := by decide +kernel
theorem d_Reader_mayEnd_13 : decode b_Reader_mayEnd 13 = .ok (.getfield 15, 3) := by decide +kernel
theorem d_Reader_mayEnd_16 : decode b_Reader_mayEnd 16 = .ok (.iload_n 1, 1) := by decide +kernel
theorem d_Reader_mayEnd_17 : decode b_Reader_mayEnd 17 = .ok (.iconst 0, 1) := by decide +kernel
theorem d_Reader_mayEnd_18 : decode b_Reader_mayEnd 18 = .ok (.invokevirtual 83, 3) := by decide +kernel
theorem d_Reader_mayEnd_21 : decode b_Reader_mayEnd 21 = .ok (.ifCond .eq 19, 3) := by decide +kernel
theorem d_Reader_mayEnd_24 : decode b_Reader_mayEnd 24 = .ok (.aload_n 0, 1) := by decide +kernel
theorem d_Reader_mayEnd_25 : decode b_Reader_mayEnd 25 = .ok (.getfield 15, 3) := by decide +kernel
theorem d_Reader_mayEnd_28 : decode b_Reader_mayEnd 28 = .ok (.iload_n 1, 1) := by decide +kernel
theorem d_Reader_mayEnd_29 : decode b_Reader_mayEnd 29 = .ok (.iconst 1, 1) := by decide +kernel
theorem d_Reader_mayEnd_30 : decode b_Reader_mayEnd 30 = .ok (.invokevirtual 83, 3) := by decide +kernel
theorem d_Reader_mayEnd_33 : decode b_Reader_mayEnd 33 = .ok (.ifCond .ne 7, 3) := by decide +kernel
theorem d_Reader_mayEnd_36 : decode b_Reader_mayEnd 36 = .ok (.iconst 1, 1) := by decide +kernel
theorem d_Reader_mayEnd_37 : decode b_Reader_mayEnd 37 = .ok (.goto 4, 3) := by decide +kernel
theorem d_Reader_mayEnd_40 : decode b_Reader_mayEnd 40 = .ok (.iconst 0, 1) := by decide +kernel
theorem d_Reader_mayEnd_41 : decode b_Reader_mayEnd 41 = .ok (.ireturn, 1) := by decide +kernel
abbrev b_Reader_mayFollow : ByteArray := prog_5_method_8_code
def y_Reader_mayFollow : MethodName := ⟨"MaskLayers$Reader", "mayFollow", "(II)Z"⟩
theorem d_Reader_mayFollow_0 : decode b_Reader_mayFollow 0 = .ok (.iload_n 2, 1) := by decide +kernel
theorem d_Reader_mayFollow_1 : decode b_Reader_mayFollow 1 = .ok (.iconst 2, 1) := by decide +kernel
theorem d_Reader_mayFollow_2 : decode b_Reader_mayFollow 2 = .ok (.if_icmp .ne 13, 3) := by decide +kernel
theorem d_Reader_mayFollow_5 : decode b_Reader_mayFollow 5 = .ok (.aload_n 0, 1) := by decide +kernel
theorem d_Reader_mayFollow_6 : decode b_Reader_mayFollow 6 = .ok (.getfield 15, 3) := by decide +kernel
theorem d_Reader_mayFollow_9 : decode b_Reader_mayFollow 9 = .ok (.iload_n 1, 1) := by decide +kernel
theorem d_Reader_mayFollow_10 : decode b_Reader_mayFollow 10 = .ok (.iconst 1, 1) := by decide +kernel
theorem d_Reader_mayFollow_11 : decode b_Reader_mayFollow 11 = .ok (.invokevirtual 83, 3) := by decide +kernel
theorem d_Reader_mayFollow_14 : decode b_Reader_mayFollow 14 = .ok (.ireturn, 1) := by decide +kernel
theorem d_Reader_mayFollow_15 : decode b_Reader_mayFollow 15 = .ok (.iload_n 2, 1) := by decide +kernel
theorem d_Reader_mayFollow_16 : decode b_Reader_mayFollow 16 = .ok (.iconst 3, 1) := by decide +kernel
theorem d_Reader_mayFollow_17 : decode b_Reader_mayFollow 17 = .ok (.if_icmp .ne 33, 3) := by decide +kernel
theorem d_Reader_mayFollow_20 : decode b_Reader_mayFollow 20 = .ok (.aload_n 0, 1) := by decide +kernel
theorem d_Reader_mayFollow_21 : decode b_Reader_mayFollow 21 = .ok (.getfield 15, 3) := by decide +kernel
theorem d_Reader_mayFollow_24 : decode b_Reader_mayFollow 24 = .ok (.iload_n 1, 1) := by decide +kernel
theorem d_Reader_mayFollow_25 : decode b_Reader_mayFollow 25 = .ok (.iconst 0, 1) := by decide +kernel
theorem d_Reader_mayFollow_26 : decode b_Reader_mayFollow 26 = .ok (.invokevirtual 83, 3) := by decide +kernel
theorem d_Reader_mayFollow_29 : decode b_Reader_mayFollow 29 = .ok (.ifCond .ne 15, 3) := by decide +kernel
theorem d_Reader_mayFollow_32 : decode b_Reader_mayFollow 32 = .ok (.aload_n 0, 1) := by decide +kernel
theorem d_Reader_mayFollow_33 : decode b_Reader_mayFollow 33 = .ok (.getfield 15, 3) := by decide +kernel
theorem d_Reader_mayFollow_36 : decode b_Reader_mayFollow 36 = .ok (.iload_n 1, 1) := by decide +kernel
theorem d_Reader_mayFollow_37 : decode b_Reader_mayFollow 37 = .ok (.iconst 2, 1) := by decide +kernel
theorem d_Reader_mayFollow_38 : decode b_Reader_mayFollow 38 = .ok (.invokevirtual 83, 3) := by decide +kernel
theorem d_Reader_mayFollow_41 : decode b_Reader_mayFollow 41 = .ok (.ifCond .eq 7, 3) := by decide +kernel
theorem d_Reader_mayFollow_44 : decode b_Reader_mayFollow 44 = .ok (.iconst 1, 1) := by decide +kernel
theorem d_Reader_mayFollow_45 : decode b_Reader_mayFollow 45 = .ok (.goto 4, 3) := by decide +kernel
theorem d_Reader_mayFollow_48 : decode b_Reader_mayFollow 48 = .ok (.iconst 0, 1) := by decide +kernel
theorem d_Reader_mayFollow_49 : decode b_Reader_mayFollow 49 = .ok (.ireturn, 1) := by decide +kernel
theorem d_Reader_mayFollow_50 : decode b_Reader_mayFollow 50 = .ok (.iload_n 2, 1) := by decide +kernel
theorem d_Reader_mayFollow_51 : decode b_Reader_mayFollow 51 = .ok (.ifCond .eq 8, 3) := by decide +kernel
theorem d_Reader_mayFollow_54 : decode b_Reader_mayFollow 54 = .ok (.iload_n 2, 1) := by decide +kernel
theorem d_Reader_mayFollow_55 : decode b_Reader_mayFollow 55 = .ok (.iconst 1, 1) := by decide +kernel
theorem d_Reader_mayFollow_56 : decode b_Reader_mayFollow 56 = .ok (.if_icmp .ne 7, 3) := by decide +kernel
theorem d_Reader_mayFollow_59 : decode b_Reader_mayFollow 59 = .ok (.iconst 1, 1) := by decide +kernel
theorem d_Reader_mayFollow_60 : decode b_Reader_mayFollow 60 = .ok (.goto 4, 3) := by decide +kernel
theorem d_Reader_mayFollow_63 : decode b_Reader_mayFollow 63 = .ok (.iconst 0, 1) := by decide +kernel
theorem d_Reader_mayFollow_64 : decode b_Reader_mayFollow 64 = .ok (.ireturn, 1) := by decide +kernel
abbrev b_Reader_refuse : ByteArray := prog_5_method_3_code
def y_Reader_refuse : MethodName := ⟨"MaskLayers$Reader", "refuse", "(I)Z"⟩
theorem d_Reader_refuse_0 : decode b_Reader_refuse 0 = .ok (.aload_n 0, 1) := by decide +kernel
theorem d_Reader_refuse_1 : decode b_Reader_refuse 1 = .ok (.iload_n 1, 1) := by decide +kernel
theorem d_Reader_refuse_2 : decode b_Reader_refuse 2 = .ok (.putfield 56, 3) := by decide +kernel
theorem d_Reader_refuse_5 : decode b_Reader_refuse 5 = .ok (.iconst 0, 1) := by decide +kernel
theorem d_Reader_refuse_6 : decode b_Reader_refuse 6 = .ok (.ireturn, 1) := by decide +kernel
abbrev b_Reader_take : ByteArray := prog_5_method_4_code
def y_Reader_take : MethodName := ⟨"MaskLayers$Reader", "take", "(II)I"⟩
theorem d_Reader_take_0 : decode b_Reader_take 0 = .ok (.aload_n 0, 1) := by decide +kernel
theorem d_Reader_take_1 : decode b_Reader_take 1 = .ok (.getfield 26, 3) := by decide +kernel
theorem d_Reader_take_4 : decode b_Reader_take 4 = .ok (.aload_n 0, 1) := by decide +kernel
theorem d_Reader_take_5 : decode b_Reader_take 5 = .ok (.getfield 9, 3) := by decide +kernel
theorem d_Reader_take_8 : decode b_Reader_take 8 = .ok (.getfield 47, 3) := by decide +kernel
theorem d_Reader_take_11 : decode b_Reader_take 11 = .ok (.if_icmp .ge 18, 3) := by decide +kernel
theorem d_Reader_take_14 : decode b_Reader_take 14 = .ok (.aload_n 0, 1) := by decide +kernel
theorem d_Reader_take_15 : decode b_Reader_take 15 = .ok (.getfield 9, 3) := by decide +kernel
theorem d_Reader_take_18 : decode b_Reader_take 18 = .ok (.getfield 59, 3) := by decide +kernel
theorem d_Reader_take_21 : decode b_Reader_take 21 = .ok (.aload_n 0, 1) := by decide +kernel
theorem d_Reader_take_22 : decode b_Reader_take 22 = .ok (.getfield 26, 3) := by decide +kernel
theorem d_Reader_take_25 : decode b_Reader_take 25 = .ok (.iaload, 1) := by decide +kernel
theorem d_Reader_take_26 : decode b_Reader_take 26 = .ok (.goto 4, 3) := by decide +kernel
theorem d_Reader_take_29 : decode b_Reader_take 29 = .ok (.iconst (-1), 1) := by decide +kernel
theorem d_Reader_take_30 : decode b_Reader_take 30 = .ok (.istore_n 3, 1) := by decide +kernel
theorem d_Reader_take_31 : decode b_Reader_take 31 = .ok (.iload_n 3, 1) := by decide +kernel
theorem d_Reader_take_32 : decode b_Reader_take 32 = .ok (.iload_n 1, 1) := by decide +kernel
