theorem d_Maker_meanOfBlock_201 : decode b_Maker_meanOfBlock 201 = .ok (.invokestatic 134, 3) := by decide +kernel
theorem d_Maker_meanOfBlock_204 : decode b_Maker_meanOfBlock 204 = .ok (.iload 12, 2) := by decide +kernel
theorem d_Maker_meanOfBlock_206 : decode b_Maker_meanOfBlock 206 = .ok (.iload 10, 2) := by decide +kernel
theorem d_Maker_meanOfBlock_208 : decode b_Maker_meanOfBlock 208 = .ok (.invokestatic 134, 3) := by decide +kernel
theorem d_Maker_meanOfBlock_211 : decode b_Maker_meanOfBlock 211 = .ok (.iload 13, 2) := by decide +kernel
theorem d_Maker_meanOfBlock_213 : decode b_Maker_meanOfBlock 213 = .ok (.iload 10, 2) := by decide +kernel
theorem d_Maker_meanOfBlock_215 : decode b_Maker_meanOfBlock 215 = .ok (.invokestatic 134, 3) := by decide +kernel
theorem d_Maker_meanOfBlock_218 : decode b_Maker_meanOfBlock 218 = .ok (.invokestatic 137, 3) := by decide +kernel
theorem d_Maker_meanOfBlock_221 : decode b_Maker_meanOfBlock 221 = .ok (.ireturn, 1) := by decide +kernel
abbrev b_Maker_takeMask : ByteArray := prog_4_method_8_code
def y_Maker_takeMask : MethodName := ⟨"MaskLayers$Maker", "takeMask", "(I)I"⟩
theorem d_Maker_takeMask_0 : decode b_Maker_takeMask 0 = .ok (.iconst 0, 1) := by decide +kernel
theorem d_Maker_takeMask_1 : decode b_Maker_takeMask 1 = .ok (.istore_n 2, 1) := by decide +kernel
theorem d_Maker_takeMask_2 : decode b_Maker_takeMask 2 = .ok (.aload_n 0, 1) := by decide +kernel
theorem d_Maker_takeMask_3 : decode b_Maker_takeMask 3 = .ok (.getfield 9, 3) := by decide +kernel
theorem d_Maker_takeMask_6 : decode b_Maker_takeMask 6 = .ok (.iload_n 1, 1) := by decide +kernel
theorem d_Maker_takeMask_7 : decode b_Maker_takeMask 7 = .ok (.iconst 1, 1) := by decide +kernel
theorem d_Maker_takeMask_8 : decode b_Maker_takeMask 8 = .ok (.invokevirtual 67, 3) := by decide +kernel
theorem d_Maker_takeMask_11 : decode b_Maker_takeMask 11 = .ok (.istore_n 3, 1) := by decide +kernel
theorem d_Maker_takeMask_12 : decode b_Maker_takeMask 12 = .ok (.aload_n 0, 1) := by decide +kernel
theorem d_Maker_takeMask_13 : decode b_Maker_takeMask 13 = .ok (.getfield 9, 3) := by decide +kernel
theorem d_Maker_takeMask_16 : decode b_Maker_takeMask 16 = .ok (.iload_n 1, 1) := by decide +kernel
theorem d_Maker_takeMask_17 : decode b_Maker_takeMask 17 = .ok (.invokevirtual 71, 3) := by decide +kernel
theorem d_Maker_takeMask_20 : decode b_Maker_takeMask 20 = .ok (.istore 4, 2) := by decide +kernel
theorem d_Maker_takeMask_22 : decode b_Maker_takeMask 22 = .ok (.iload 4, 2) := by decide +kernel
theorem d_Maker_takeMask_24 : decode b_Maker_takeMask 24 = .ok (.iload_n 3, 1) := by decide +kernel
theorem d_Maker_takeMask_25 : decode b_Maker_takeMask 25 = .ok (.if_icmp .ge 42, 3) := by decide +kernel
theorem d_Maker_takeMask_28 : decode b_Maker_takeMask 28 = .ok (.aload_n 0, 1) := by decide +kernel
theorem d_Maker_takeMask_29 : decode b_Maker_takeMask 29 = .ok (.iload 4, 2) := by decide +kernel
theorem d_Maker_takeMask_31 : decode b_Maker_takeMask 31 = .ok (.invokevirtual 89, 3) := by decide +kernel
theorem d_Maker_takeMask_34 : decode b_Maker_takeMask 34 = .ok (.ifCond .eq 7, 3) := by decide +kernel
theorem d_Maker_takeMask_37 : decode b_Maker_takeMask 37 = .ok (.iconst 1, 1) := by decide +kernel
theorem d_Maker_takeMask_38 : decode b_Maker_takeMask 38 = .ok (.goto 4, 3) := by decide +kernel
theorem d_Maker_takeMask_41 : decode b_Maker_takeMask 41 = .ok (.iconst 0, 1) := by decide +kernel
theorem d_Maker_takeMask_42 : decode b_Maker_takeMask 42 = .ok (.istore 5, 2) := by decide +kernel
theorem d_Maker_takeMask_44 : decode b_Maker_takeMask 44 = .ok (.aload_n 0, 1) := by decide +kernel
theorem d_Maker_takeMask_45 : decode b_Maker_takeMask 45 = .ok (.getfield 9, 3) := by decide +kernel
theorem d_Maker_takeMask_48 : decode b_Maker_takeMask 48 = .ok (.iconst 1, 1) := by decide +kernel
theorem d_Maker_takeMask_49 : decode b_Maker_takeMask 49 = .ok (.iload 4, 2) := by decide +kernel
theorem d_Maker_takeMask_51 : decode b_Maker_takeMask 51 = .ok (.iload 5, 2) := by decide +kernel
theorem d_Maker_takeMask_53 : decode b_Maker_takeMask 53 = .ok (.invokevirtual 92, 3) := by decide +kernel
theorem d_Maker_takeMask_56 : decode b_Maker_takeMask 56 = .ok (.iload_n 2, 1) := by decide +kernel
theorem d_Maker_takeMask_57 : decode b_Maker_takeMask 57 = .ok (.iload 5, 2) := by decide +kernel
theorem d_Maker_takeMask_59 : decode b_Maker_takeMask 59 = .ok (.iadd, 1) := by decide +kernel
theorem d_Maker_takeMask_60 : decode b_Maker_takeMask 60 = .ok (.istore_n 2, 1) := by decide +kernel
theorem d_Maker_takeMask_61 : decode b_Maker_takeMask 61 = .ok (.iinc 4 1, 3) := by decide +kernel
theorem d_Maker_takeMask_64 : decode b_Maker_takeMask 64 = .ok (.goto (-42), 3) := by decide +kernel
theorem d_Maker_takeMask_67 : decode b_Maker_takeMask 67 = .ok (.iload_n 2, 1) := by decide +kernel
theorem d_Maker_takeMask_68 : decode b_Maker_takeMask 68 = .ok (.ireturn, 1) := by decide +kernel
abbrev b_Maker_makeBlocks : ByteArray := prog_4_method_9_code
def y_Maker_makeBlocks : MethodName := ⟨"MaskLayers$Maker", "makeBlocks", "(II)I"⟩
theorem d_Maker_makeBlocks_0 : decode b_Maker_makeBlocks 0 = .ok (.aload_n 0, 1) := by decide +kernel
theorem d_Maker_makeBlocks_1 : decode b_Maker_makeBlocks 1 = .ok (.getfield 9, 3) := by decide +kernel
theorem d_Maker_makeBlocks_4 : decode b_Maker_makeBlocks 4 = .ok (.iload_n 1, 1) := by decide +kernel
theorem d_Maker_makeBlocks_5 : decode b_Maker_makeBlocks 5 = .ok (.iload_n 2, 1) := by decide +kernel
theorem d_Maker_makeBlocks_6 : decode b_Maker_makeBlocks 6 = .ok (.invokevirtual 95, 3) := by decide +kernel
theorem d_Maker_makeBlocks_9 : decode b_Maker_makeBlocks 9 = .ok (.istore_n 3, 1) := by decide +kernel
theorem d_Maker_makeBlocks_10 : decode b_Maker_makeBlocks 10 = .ok (.aload_n 0, 1) := by decide +kernel
theorem d_Maker_makeBlocks_11 : decode b_Maker_makeBlocks 11 = .ok (.getfield 9, 3) := by decide +kernel
theorem d_Maker_makeBlocks_14 : decode b_Maker_makeBlocks 14 = .ok (.iload_n 2, 1) := by decide +kernel
theorem d_Maker_makeBlocks_15 : decode b_Maker_makeBlocks 15 = .ok (.invokevirtual 98, 3) := by decide +kernel
theorem d_Maker_makeBlocks_18 : decode b_Maker_makeBlocks 18 = .ok (.istore 4, 2) := by decide +kernel
theorem d_Maker_makeBlocks_20 : decode b_Maker_makeBlocks 20 = .ok (.aload_n 0, 1) := by decide +kernel
theorem d_Maker_makeBlocks_21 : decode b_Maker_makeBlocks 21 = .ok (.getfield 9, 3) := by decide +kernel
theorem d_Maker_makeBlocks_24 : decode b_Maker_makeBlocks 24 = .ok (.iload_n 1, 1) := by decide +kernel
theorem d_Maker_makeBlocks_25 : decode b_Maker_makeBlocks 25 = .ok (.invokevirtual 71, 3) := by decide +kernel
theorem d_Maker_makeBlocks_28 : decode b_Maker_makeBlocks 28 = .ok (.istore 5, 2) := by decide +kernel
theorem d_Maker_makeBlocks_30 : decode b_Maker_makeBlocks 30 = .ok (.iconst (-1), 1) := by decide +kernel
theorem d_Maker_makeBlocks_31 : decode b_Maker_makeBlocks 31 = .ok (.istore 6, 2) := by decide +kernel
theorem d_Maker_makeBlocks_33 : decode b_Maker_makeBlocks 33 = .ok (.iconst 0, 1) := by decide +kernel
theorem d_Maker_makeBlocks_34 : decode b_Maker_makeBlocks 34 = .ok (.istore 7, 2) := by decide +kernel
theorem d_Maker_makeBlocks_36 : decode b_Maker_makeBlocks 36 = .ok (.iload 7, 2) := by decide +kernel
theorem d_Maker_makeBlocks_38 : decode b_Maker_makeBlocks 38 = .ok (.iload_n 3, 1) := by decide +kernel
theorem d_Maker_makeBlocks_39 : decode b_Maker_makeBlocks 39 = .ok (.if_icmp .ge 67, 3) := by decide +kernel
theorem d_Maker_makeBlocks_42 : decode b_Maker_makeBlocks 42 = .ok (.iconst 0, 1) := by decide +kernel
theorem d_Maker_makeBlocks_43 : decode b_Maker_makeBlocks 43 = .ok (.istore 8, 2) := by decide +kernel
theorem d_Maker_makeBlocks_45 : decode b_Maker_makeBlocks 45 = .ok (.iload 8, 2) := by decide +kernel
theorem d_Maker_makeBlocks_47 : decode b_Maker_makeBlocks 47 = .ok (.iload 4, 2) := by decide +kernel
theorem d_Maker_makeBlocks_49 : decode b_Maker_makeBlocks 49 = .ok (.if_icmp .ge 51, 3) := by decide +kernel
theorem d_Maker_makeBlocks_52 : decode b_Maker_makeBlocks 52 = .ok (.aload_n 0, 1) := by decide +kernel
theorem d_Maker_makeBlocks_53 : decode b_Maker_makeBlocks 53 = .ok (.iload_n 1, 1) := by decide +kernel
theorem d_Maker_makeBlocks_54 : decode b_Maker_makeBlocks 54 = .ok (.iload_n 2, 1) := by decide +kernel
theorem d_Maker_makeBlocks_55 : decode b_Maker_makeBlocks 55 = .ok (.iload 8, 2) := by decide +kernel
theorem d_Maker_makeBlocks_57 : decode b_Maker_makeBlocks 57 = .ok (.iload 7, 2) := by decide +kernel
theorem d_Maker_makeBlocks_59 : decode b_Maker_makeBlocks 59 = .ok (.invokevirtual 101, 3) := by decide +kernel
theorem d_Maker_makeBlocks_62 : decode b_Maker_makeBlocks 62 = .ok (.istore 9, 2) := by decide +kernel
theorem d_Maker_makeBlocks_64 : decode b_Maker_makeBlocks 64 = .ok (.aload_n 0, 1) := by decide +kernel
theorem d_Maker_makeBlocks_65 : decode b_Maker_makeBlocks 65 = .ok (.getfield 9, 3) := by decide +kernel
theorem d_Maker_makeBlocks_68 : decode b_Maker_makeBlocks 68 = .ok (.iload_n 2, 1) := by decide +kernel
theorem d_Maker_makeBlocks_69 : decode b_Maker_makeBlocks 69 = .ok (.iload 5, 2) := by decide +kernel
theorem d_Maker_makeBlocks_71 : decode b_Maker_makeBlocks 71 = .ok (.iload 9, 2) := by decide +kernel
theorem d_Maker_makeBlocks_73 : decode b_Maker_makeBlocks 73 = .ok (.invokevirtual 92, 3) := by decide +kernel
theorem d_Maker_makeBlocks_76 : decode b_Maker_makeBlocks 76 = .ok (.iload 6, 2) := by decide +kernel
theorem d_Maker_makeBlocks_78 : decode b_Maker_makeBlocks 78 = .ok (.iconst (-1), 1) := by decide +kernel
theorem d_Maker_makeBlocks_79 : decode b_Maker_makeBlocks 79 = .ok (.if_icmp .ne 8, 3) := by decide +kernel
theorem d_Maker_makeBlocks_82 : decode b_Maker_makeBlocks 82 = .ok (.iload 9, 2) := by decide +kernel
theorem d_Maker_makeBlocks_84 : decode b_Maker_makeBlocks 84 = .ok (.goto 5, 3) := by decide +kernel
theorem d_Maker_makeBlocks_87 : decode b_Maker_makeBlocks 87 = .ok (.iload 6, 2) := by decide +kernel
theorem d_Maker_makeBlocks_89 : decode b_Maker_makeBlocks 89 = .ok (.istore 6, 2) := by decide +kernel
theorem d_Maker_makeBlocks_91 : decode b_Maker_makeBlocks 91 = .ok (.iinc 5 1, 3) := by decide +kernel
theorem d_Maker_makeBlocks_94 : decode b_Maker_makeBlocks 94 = .ok (.iinc 8 1, 3) := by decide +kernel
theorem d_Maker_makeBlocks_97 : decode b_Maker_makeBlocks 97 = .ok (.goto (-52), 3) := by decide +kernel
theorem d_Maker_makeBlocks_100 : decode b_Maker_makeBlocks 100 = .ok (.iinc 7 1, 3) := by decide +kernel
theorem d_Maker_makeBlocks_103 : decode b_Maker_makeBlocks 103 = .ok (.goto (-67), 3) := by decide +kernel
theorem d_Maker_makeBlocks_106 : decode b_Maker_makeBlocks 106 = .ok (.iload 6, 2) := by decide +kernel
theorem d_Maker_makeBlocks_108 : decode b_Maker_makeBlocks 108 = .ok (.ireturn, 1) := by decide +kernel
abbrev b_Maker_fillBlocks : ByteArray := prog_4_method_11_code
def y_Maker_fillBlocks : MethodName := ⟨"MaskLayers$Maker", "fillBlocks", "(III)V"⟩
theorem d_Maker_fillBlocks_0 : decode b_Maker_fillBlocks 0 = .ok (.aload_n 0, 1) := by decide +kernel
theorem d_Maker_fillBlocks_1 : decode b_Maker_fillBlocks 1 = .ok (.getfield 9, 3) := by decide +kernel
theorem d_Maker_fillBlocks_4 : decode b_Maker_fillBlocks 4 = .ok (.iload_n 1, 1) := by decide +kernel
theorem d_Maker_fillBlocks_5 : decode b_Maker_fillBlocks 5 = .ok (.iload_n 2, 1) := by decide +kernel
theorem d_Maker_fillBlocks_6 : decode b_Maker_fillBlocks 6 = .ok (.invokevirtual 95, 3) := by decide +kernel
theorem d_Maker_fillBlocks_9 : decode b_Maker_fillBlocks 9 = .ok (.istore 4, 2) := by decide +kernel
theorem d_Maker_fillBlocks_11 : decode b_Maker_fillBlocks 11 = .ok (.aload_n 0, 1) := by decide +kernel
theorem d_Maker_fillBlocks_12 : decode b_Maker_fillBlocks 12 = .ok (.getfield 9, 3) := by decide +kernel
theorem d_Maker_fillBlocks_15 : decode b_Maker_fillBlocks 15 = .ok (.iload_n 2, 1) := by decide +kernel
theorem d_Maker_fillBlocks_16 : decode b_Maker_fillBlocks 16 = .ok (.invokevirtual 98, 3) := by decide +kernel
theorem d_Maker_fillBlocks_19 : decode b_Maker_fillBlocks 19 = .ok (.istore 5, 2) := by decide +kernel
theorem d_Maker_fillBlocks_21 : decode b_Maker_fillBlocks 21 = .ok (.aload_n 0, 1) := by decide +kernel
theorem d_Maker_fillBlocks_22 : decode b_Maker_fillBlocks 22 = .ok (.getfield 9, 3) := by decide +kernel
theorem d_Maker_fillBlocks_25 : decode b_Maker_fillBlocks 25 = .ok (.iload_n 1, 1) := by decide +kernel
theorem d_Maker_fillBlocks_26 : decode b_Maker_fillBlocks 26 = .ok (.invokevirtual 71, 3) := by decide +kernel
theorem d_Maker_fillBlocks_29 : decode b_Maker_fillBlocks 29 = .ok (.istore 6, 2) := by decide +kernel
theorem d_Maker_fillBlocks_31 : decode b_Maker_fillBlocks 31 = .ok (.iconst 0, 1) := by decide +kernel
theorem d_Maker_fillBlocks_32 : decode b_Maker_fillBlocks 32 = .ok (.istore 7, 2) := by decide +kernel
theorem d_Maker_fillBlocks_34 : decode b_Maker_fillBlocks 34 = .ok (.iload 7, 2) := by decide +kernel
theorem d_Maker_fillBlocks_36 : decode b_Maker_fillBlocks 36 = .ok (.iload 4, 2) := by decide +kernel
theorem d_Maker_fillBlocks_38 : decode b_Maker_fillBlocks 38 = .ok (.if_icmp .ge 132, 3) := by decide +kernel
theorem d_Maker_fillBlocks_41 : decode b_Maker_fillBlocks 41 = .ok (.iconst 0, 1) := by decide +kernel
theorem d_Maker_fillBlocks_42 : decode b_Maker_fillBlocks 42 = .ok (.istore 8, 2) := by decide +kernel
theorem d_Maker_fillBlocks_44 : decode b_Maker_fillBlocks 44 = .ok (.iload 8, 2) := by decide +kernel
theorem d_Maker_fillBlocks_46 : decode b_Maker_fillBlocks 46 = .ok (.iload 5, 2) := by decide +kernel
theorem d_Maker_fillBlocks_48 : decode b_Maker_fillBlocks 48 = .ok (.if_icmp .ge 116, 3) := by decide +kernel
theorem d_Maker_fillBlocks_51 : decode b_Maker_fillBlocks 51 = .ok (.aload_n 0, 1) := by decide +kernel
theorem d_Maker_fillBlocks_52 : decode b_Maker_fillBlocks 52 = .ok (.getfield 9, 3) := by decide +kernel
theorem d_Maker_fillBlocks_55 : decode b_Maker_fillBlocks 55 = .ok (.iload_n 2, 1) := by decide +kernel
theorem d_Maker_fillBlocks_56 : decode b_Maker_fillBlocks 56 = .ok (.iload 6, 2) := by decide +kernel
theorem d_Maker_fillBlocks_58 : decode b_Maker_fillBlocks 58 = .ok (.invokevirtual 140, 3) := by decide +kernel
theorem d_Maker_fillBlocks_61 : decode b_Maker_fillBlocks 61 = .ok (.iconst (-1), 1) := by decide +kernel
theorem d_Maker_fillBlocks_62 : decode b_Maker_fillBlocks 62 = .ok (.if_icmp .ne 93, 3) := by decide +kernel
theorem d_Maker_fillBlocks_65 : decode b_Maker_fillBlocks 65 = .ok (.aload_n 0, 1) := by decide +kernel
theorem d_Maker_fillBlocks_66 : decode b_Maker_fillBlocks 66 = .ok (.getfield 22, 3) := by decide +kernel
theorem d_Maker_fillBlocks_69 : decode b_Maker_fillBlocks 69 = .ok (.iload 6, 2) := by decide +kernel
theorem d_Maker_fillBlocks_71 : decode b_Maker_fillBlocks 71 = .ok (.invokestatic 60, 3) := by decide +kernel
theorem d_Maker_fillBlocks_74 : decode b_Maker_fillBlocks 74 = .ok (.ifCond .eq 81, 3) := by decide +kernel
theorem d_Maker_fillBlocks_77 : decode b_Maker_fillBlocks 77 = .ok (.iload 8, 2) := by decide +kernel
theorem d_Maker_fillBlocks_79 : decode b_Maker_fillBlocks 79 = .ok (.ifCond .le 18, 3) := by decide +kernel
theorem d_Maker_fillBlocks_82 : decode b_Maker_fillBlocks 82 = .ok (.aload_n 0, 1) := by decide +kernel
theorem d_Maker_fillBlocks_83 : decode b_Maker_fillBlocks 83 = .ok (.getfield 9, 3) := by decide +kernel
theorem d_Maker_fillBlocks_86 : decode b_Maker_fillBlocks 86 = .ok (.iload_n 2, 1) := by decide +kernel
theorem d_Maker_fillBlocks_87 : decode b_Maker_fillBlocks 87 = .ok (.iload 6, 2) := by decide +kernel
theorem d_Maker_fillBlocks_89 : decode b_Maker_fillBlocks 89 = .ok (.iconst 1, 1) := by decide +kernel
theorem d_Maker_fillBlocks_90 : decode b_Maker_fillBlocks 90 = .ok (.isub, 1) := by decide +kernel
theorem d_Maker_fillBlocks_91 : decode b_Maker_fillBlocks 91 = .ok (.invokevirtual 140, 3) := by decide +kernel
theorem d_Maker_fillBlocks_94 : decode b_Maker_fillBlocks 94 = .ok (.goto 4, 3) := by decide +kernel
theorem d_Maker_fillBlocks_97 : decode b_Maker_fillBlocks 97 = .ok (.iconst (-1), 1) := by decide +kernel
theorem d_Maker_fillBlocks_98 : decode b_Maker_fillBlocks 98 = .ok (.istore 9, 2) := by decide +kernel
theorem d_Maker_fillBlocks_100 : decode b_Maker_fillBlocks 100 = .ok (.iload 7, 2) := by decide +kernel
theorem d_Maker_fillBlocks_102 : decode b_Maker_fillBlocks 102 = .ok (.ifCond .le 19, 3) := by decide +kernel
theorem d_Maker_fillBlocks_105 : decode b_Maker_fillBlocks 105 = .ok (.aload_n 0, 1) := by decide +kernel
theorem d_Maker_fillBlocks_106 : decode b_Maker_fillBlocks 106 = .ok (.getfield 9, 3) := by decide +kernel
theorem d_Maker_fillBlocks_109 : decode b_Maker_fillBlocks 109 = .ok (.iload_n 2, 1) := by decide +kernel
theorem d_Maker_fillBlocks_110 : decode b_Maker_fillBlocks 110 = .ok (.iload 6, 2) := by decide +kernel
theorem d_Maker_fillBlocks_112 : decode b_Maker_fillBlocks 112 = .ok (.iload 5, 2) := by decide +kernel
theorem d_Maker_fillBlocks_114 : decode b_Maker_fillBlocks 114 = .ok (.isub, 1) := by decide +kernel
theorem d_Maker_fillBlocks_115 : decode b_Maker_fillBlocks 115 = .ok (.invokevirtual 140, 3) := by decide +kernel
theorem d_Maker_fillBlocks_118 : decode b_Maker_fillBlocks 118 = .ok (.goto 4, 3) := by decide +kernel
theorem d_Maker_fillBlocks_121 : decode b_Maker_fillBlocks 121 = .ok (.iconst (-1), 1) := by decide +kernel
theorem d_Maker_fillBlocks_122 : decode b_Maker_fillBlocks 122 = .ok (.istore 10, 2) := by decide +kernel
theorem d_Maker_fillBlocks_124 : decode b_Maker_fillBlocks 124 = .ok (.aload_n 0, 1) := by decide +kernel
theorem d_Maker_fillBlocks_125 : decode b_Maker_fillBlocks 125 = .ok (.getfield 9, 3) := by decide +kernel
theorem d_Maker_fillBlocks_128 : decode b_Maker_fillBlocks 128 = .ok (.iload_n 2, 1) := by decide +kernel
theorem d_Maker_fillBlocks_129 : decode b_Maker_fillBlocks 129 = .ok (.iload 6, 2) := by decide +kernel
theorem d_Maker_fillBlocks_131 : decode b_Maker_fillBlocks 131 = .ok (.iload 9, 2) := by decide +kernel
theorem d_Maker_fillBlocks_133 : decode b_Maker_fillBlocks 133 = .ok (.iload 10, 2) := by decide +kernel
theorem d_Maker_fillBlocks_135 : decode b_Maker_fillBlocks 135 = .ok (.iload_n 3, 1) := by decide +kernel
theorem d_Maker_fillBlocks_136 : decode b_Maker_fillBlocks 136 = .ok (.invokestatic 143, 3) := by decide +kernel
theorem d_Maker_fillBlocks_139 : decode b_Maker_fillBlocks 139 = .ok (.invokevirtual 92, 3) := by decide +kernel
theorem d_Maker_fillBlocks_142 : decode b_Maker_fillBlocks 142 = .ok (.aload_n 0, 1) := by decide +kernel
theorem d_Maker_fillBlocks_143 : decode b_Maker_fillBlocks 143 = .ok (.getfield 22, 3) := by decide +kernel
theorem d_Maker_fillBlocks_146 : decode b_Maker_fillBlocks 146 = .ok (.iload 6, 2) := by decide +kernel
theorem d_Maker_fillBlocks_148 : decode b_Maker_fillBlocks 148 = .ok (.dup2, 1) := by decide +kernel
theorem d_Maker_fillBlocks_149 : decode b_Maker_fillBlocks 149 = .ok (.iaload, 1) := by decide +kernel
theorem d_Maker_fillBlocks_150 : decode b_Maker_fillBlocks 150 = .ok (.iconst 1, 1) := by decide +kernel
theorem d_Maker_fillBlocks_151 : decode b_Maker_fillBlocks 151 = .ok (.iload_n 2, 1) := by decide +kernel
theorem d_Maker_fillBlocks_152 : decode b_Maker_fillBlocks 152 = .ok (.ishl, 1) := by decide +kernel
theorem d_Maker_fillBlocks_153 : decode b_Maker_fillBlocks 153 = .ok (.ior, 1) := by decide +kernel
theorem d_Maker_fillBlocks_154 : decode b_Maker_fillBlocks 154 = .ok (.iastore, 1) := by decide +kernel
theorem d_Maker_fillBlocks_155 : decode b_Maker_fillBlocks 155 = .ok (.iinc 6 1, 3) := by decide +kernel
theorem d_Maker_fillBlocks_158 : decode b_Maker_fillBlocks 158 = .ok (.iinc 8 1, 3) := by decide +kernel
theorem d_Maker_fillBlocks_161 : decode b_Maker_fillBlocks 161 = .ok (.goto (-117), 3) := by decide +kernel
theorem d_Maker_fillBlocks_164 : decode b_Maker_fillBlocks 164 = .ok (.iinc 7 1, 3) := by decide +kernel
theorem d_Maker_fillBlocks_167 : decode b_Maker_fillBlocks 167 = .ok (.goto (-133), 3) := by decide +kernel
theorem d_Maker_fillBlocks_170 : decode b_Maker_fillBlocks 170 = .ok (.return_, 1) := by decide +kernel
abbrev b_Maker_makeRest : ByteArray := prog_4_method_13_code
def y_Maker_makeRest : MethodName := ⟨"MaskLayers$Maker", "makeRest", "(I)Z"⟩
theorem d_Maker_makeRest_0 : decode b_Maker_makeRest 0 = .ok (.iconst 0, 1) := by decide +kernel
theorem d_Maker_makeRest_1 : decode b_Maker_makeRest 1 = .ok (.istore_n 2, 1) := by decide +kernel
theorem d_Maker_makeRest_2 : decode b_Maker_makeRest 2 = .ok (.aload_n 0, 1) := by decide +kernel
theorem d_Maker_makeRest_3 : decode b_Maker_makeRest 3 = .ok (.getfield 9, 3) := by decide +kernel
theorem d_Maker_makeRest_6 : decode b_Maker_makeRest 6 = .ok (.iload_n 1, 1) := by decide +kernel
theorem d_Maker_makeRest_7 : decode b_Maker_makeRest 7 = .ok (.invokevirtual 71, 3) := by decide +kernel
theorem d_Maker_makeRest_10 : decode b_Maker_makeRest 10 = .ok (.istore_n 3, 1) := by decide +kernel
theorem d_Maker_makeRest_11 : decode b_Maker_makeRest 11 = .ok (.aload_n 0, 1) := by decide +kernel
theorem d_Maker_makeRest_12 : decode b_Maker_makeRest 12 = .ok (.getfield 9, 3) := by decide +kernel
theorem d_Maker_makeRest_15 : decode b_Maker_makeRest 15 = .ok (.iload_n 1, 1) := by decide +kernel
theorem d_Maker_makeRest_16 : decode b_Maker_makeRest 16 = .ok (.invokevirtual 111, 3) := by decide +kernel
theorem d_Maker_makeRest_19 : decode b_Maker_makeRest 19 = .ok (.istore 4, 2) := by decide +kernel
theorem d_Maker_makeRest_21 : decode b_Maker_makeRest 21 = .ok (.aload_n 0, 1) := by decide +kernel
theorem d_Maker_makeRest_22 : decode b_Maker_makeRest 22 = .ok (.getfield 9, 3) := by decide +kernel
theorem d_Maker_makeRest_25 : decode b_Maker_makeRest 25 = .ok (.iload_n 1, 1) := by decide +kernel
theorem d_Maker_makeRest_26 : decode b_Maker_makeRest 26 = .ok (.invokevirtual 108, 3) := by decide +kernel
theorem d_Maker_makeRest_29 : decode b_Maker_makeRest 29 = .ok (.istore 5, 2) := by decide +kernel
theorem d_Maker_makeRest_31 : decode b_Maker_makeRest 31 = .ok (.iload 5, 2) := by decide +kernel
theorem d_Maker_makeRest_33 : decode b_Maker_makeRest 33 = .ok (.iload 4, 2) := by decide +kernel
theorem d_Maker_makeRest_35 : decode b_Maker_makeRest 35 = .ok (.if_icmp .ge 110, 3) := by decide +kernel
theorem d_Maker_makeRest_38 : decode b_Maker_makeRest 38 = .ok (.iconst 0, 1) := by decide +kernel
theorem d_Maker_makeRest_39 : decode b_Maker_makeRest 39 = .ok (.istore 6, 2) := by decide +kernel
theorem d_Maker_makeRest_41 : decode b_Maker_makeRest 41 = .ok (.iload 6, 2) := by decide +kernel
theorem d_Maker_makeRest_43 : decode b_Maker_makeRest 43 = .ok (.aload_n 0, 1) := by decide +kernel
theorem d_Maker_makeRest_44 : decode b_Maker_makeRest 44 = .ok (.getfield 9, 3) := by decide +kernel
theorem d_Maker_makeRest_47 : decode b_Maker_makeRest 47 = .ok (.getfield 119, 3) := by decide +kernel
theorem d_Maker_makeRest_50 : decode b_Maker_makeRest 50 = .ok (.if_icmp .ge 89, 3) := by decide +kernel
theorem d_Maker_makeRest_53 : decode b_Maker_makeRest 53 = .ok (.aload_n 0, 1) := by decide +kernel
theorem d_Maker_makeRest_54 : decode b_Maker_makeRest 54 = .ok (.iload_n 3, 1) := by decide +kernel
theorem d_Maker_makeRest_55 : decode b_Maker_makeRest 55 = .ok (.invokevirtual 89, 3) := by decide +kernel
theorem d_Maker_makeRest_58 : decode b_Maker_makeRest 58 = .ok (.ifCond .eq 7, 3) := by decide +kernel
theorem d_Maker_makeRest_61 : decode b_Maker_makeRest 61 = .ok (.iconst 2, 1) := by decide +kernel
theorem d_Maker_makeRest_62 : decode b_Maker_makeRest 62 = .ok (.goto 4, 3) := by decide +kernel
theorem d_Maker_makeRest_65 : decode b_Maker_makeRest 65 = .ok (.iconst 0, 1) := by decide +kernel
theorem d_Maker_makeRest_66 : decode b_Maker_makeRest 66 = .ok (.istore 7, 2) := by decide +kernel
theorem d_Maker_makeRest_68 : decode b_Maker_makeRest 68 = .ok (.aload_n 0, 1) := by decide +kernel
theorem d_Maker_makeRest_69 : decode b_Maker_makeRest 69 = .ok (.getfield 9, 3) := by decide +kernel
theorem d_Maker_makeRest_72 : decode b_Maker_makeRest 72 = .ok (.iload 7, 2) := by decide +kernel
theorem d_Maker_makeRest_74 : decode b_Maker_makeRest 74 = .ok (.aload_n 0, 1) := by decide +kernel
theorem d_Maker_makeRest_75 : decode b_Maker_makeRest 75 = .ok (.getfield 9, 3) := by decide +kernel
theorem d_Maker_makeRest_78 : decode b_Maker_makeRest 78 = .ok (.iload 7, 2) := by decide +kernel
theorem d_Maker_makeRest_80 : decode b_Maker_makeRest 80 = .ok (.iload 6, 2) := by decide +kernel
theorem d_Maker_makeRest_82 : decode b_Maker_makeRest 82 = .ok (.iload 5, 2) := by decide +kernel
theorem d_Maker_makeRest_84 : decode b_Maker_makeRest 84 = .ok (.invokevirtual 48, 3) := by decide +kernel
theorem d_Maker_makeRest_87 : decode b_Maker_makeRest 87 = .ok (.invokevirtual 140, 3) := by decide +kernel
theorem d_Maker_makeRest_90 : decode b_Maker_makeRest 90 = .ok (.istore 8, 2) := by decide +kernel
theorem d_Maker_makeRest_92 : decode b_Maker_makeRest 92 = .ok (.aload_n 0, 1) := by decide +kernel
theorem d_Maker_makeRest_93 : decode b_Maker_makeRest 93 = .ok (.iload_n 3, 1) := by decide +kernel
theorem d_Maker_makeRest_94 : decode b_Maker_makeRest 94 = .ok (.invokevirtual 122, 3) := by decide +kernel
theorem d_Maker_makeRest_97 : decode b_Maker_makeRest 97 = .ok (.iload 8, 2) := by decide +kernel
theorem d_Maker_makeRest_99 : decode b_Maker_makeRest 99 = .ok (.invokestatic 149, 3) := by decide +kernel
theorem d_Maker_makeRest_102 : decode b_Maker_makeRest 102 = .ok (.istore 9, 2) := by decide +kernel
theorem d_Maker_makeRest_104 : decode b_Maker_makeRest 104 = .ok (.aload_n 0, 1) := by decide +kernel
theorem d_Maker_makeRest_105 : decode b_Maker_makeRest 105 = .ok (.getfield 9, 3) := by decide +kernel
theorem d_Maker_makeRest_108 : decode b_Maker_makeRest 108 = .ok (.iconst 3, 1) := by decide +kernel
theorem d_Maker_makeRest_109 : decode b_Maker_makeRest 109 = .ok (.iload_n 3, 1) := by decide +kernel
theorem d_Maker_makeRest_110 : decode b_Maker_makeRest 110 = .ok (.iload 9, 2) := by decide +kernel
theorem d_Maker_makeRest_112 : decode b_Maker_makeRest 112 = .ok (.invokevirtual 92, 3) := by decide +kernel
theorem d_Maker_makeRest_115 : decode b_Maker_makeRest 115 = .ok (.iload_n 2, 1) := by decide +kernel
theorem d_Maker_makeRest_116 : decode b_Maker_makeRest 116 = .ok (.ifCond .ne 8, 3) := by decide +kernel
theorem d_Maker_makeRest_119 : decode b_Maker_makeRest 119 = .ok (.iload 9, 2) := by decide +kernel
theorem d_Maker_makeRest_121 : decode b_Maker_makeRest 121 = .ok (.ifCond .eq 7, 3) := by decide +kernel
theorem d_Maker_makeRest_124 : decode b_Maker_makeRest 124 = .ok (.iconst 1, 1) := by decide +kernel
theorem d_Maker_makeRest_125 : decode b_Maker_makeRest 125 = .ok (.goto 4, 3) := by decide +kernel
theorem d_Maker_makeRest_128 : decode b_Maker_makeRest 128 = .ok (.iconst 0, 1) := by decide +kernel
theorem d_Maker_makeRest_129 : decode b_Maker_makeRest 129 = .ok (.istore_n 2, 1) := by decide +kernel
theorem d_Maker_makeRest_130 : decode b_Maker_makeRest 130 = .ok (.iinc 3 1, 3) := by decide +kernel
theorem d_Maker_makeRest_133 : decode b_Maker_makeRest 133 = .ok (.iinc 6 1, 3) := by decide +kernel
theorem d_Maker_makeRest_136 : decode b_Maker_makeRest 136 = .ok (.goto (-95), 3) := by decide +kernel
theorem d_Maker_makeRest_139 : decode b_Maker_makeRest 139 = .ok (.iinc 5 1, 3) := by decide +kernel
theorem d_Maker_makeRest_142 : decode b_Maker_makeRest 142 = .ok (.goto (-111), 3) := by decide +kernel
theorem d_Maker_makeRest_145 : decode b_Maker_makeRest 145 = .ok (.iload_n 2, 1) := by decide +kernel
theorem d_Maker_makeRest_146 : decode b_Maker_makeRest 146 = .ok (.ireturn, 1) := by decide +kernel
abbrev b_Maker_makeStripe : ByteArray := prog_4_method_7_code
def y_Maker_makeStripe : MethodName := ⟨"MaskLayers$Maker", "makeStripe", "(IZ)V"⟩
theorem d_Maker_makeStripe_0 : decode b_Maker_makeStripe 0 = .ok (.aload_n 0, 1) := by decide +kernel
theorem d_Maker_makeStripe_1 : decode b_Maker_makeStripe 1 = .ok (.iload_n 1, 1) := by decide +kernel
theorem d_Maker_makeStripe_2 : decode b_Maker_makeStripe 2 = .ok (.invokevirtual 64, 3) := by decide +kernel
theorem d_Maker_makeStripe_5 : decode b_Maker_makeStripe 5 = .ok (.istore_n 3, 1) := by decide +kernel
theorem d_Maker_makeStripe_6 : decode b_Maker_makeStripe 6 = .ok (.iload_n 3, 1) := by decide +kernel
theorem d_Maker_makeStripe_7 : decode b_Maker_makeStripe 7 = .ok (.aload_n 0, 1) := by decide +kernel
theorem d_Maker_makeStripe_8 : decode b_Maker_makeStripe 8 = .ok (.getfield 9, 3) := by decide +kernel
theorem d_Maker_makeStripe_11 : decode b_Maker_makeStripe 11 = .ok (.iload_n 1, 1) := by decide +kernel
theorem d_Maker_makeStripe_12 : decode b_Maker_makeStripe 12 = .ok (.iconst 1, 1) := by decide +kernel
theorem d_Maker_makeStripe_13 : decode b_Maker_makeStripe 13 = .ok (.invokevirtual 67, 3) := by decide +kernel
theorem d_Maker_makeStripe_16 : decode b_Maker_makeStripe 16 = .ok (.aload_n 0, 1) := by decide +kernel
theorem d_Maker_makeStripe_17 : decode b_Maker_makeStripe 17 = .ok (.getfield 9, 3) := by decide +kernel
theorem d_Maker_makeStripe_20 : decode b_Maker_makeStripe 20 = .ok (.iload_n 1, 1) := by decide +kernel
theorem d_Maker_makeStripe_21 : decode b_Maker_makeStripe 21 = .ok (.invokevirtual 71, 3) := by decide +kernel
theorem d_Maker_makeStripe_24 : decode b_Maker_makeStripe 24 = .ok (.isub, 1) := by decide +kernel
theorem d_Maker_makeStripe_25 : decode b_Maker_makeStripe 25 = .ok (.if_icmp .ge 24, 3) := by decide +kernel
theorem d_Maker_makeStripe_28 : decode b_Maker_makeStripe 28 = .ok (.aload_n 0, 1) := by decide +kernel
theorem d_Maker_makeStripe_29 : decode b_Maker_makeStripe 29 = .ok (.iload_n 1, 1) := by decide +kernel
theorem d_Maker_makeStripe_30 : decode b_Maker_makeStripe 30 = .ok (.iconst 0, 1) := by decide +kernel
theorem d_Maker_makeStripe_31 : decode b_Maker_makeStripe 31 = .ok (.aload_n 0, 1) := by decide +kernel
theorem d_Maker_makeStripe_32 : decode b_Maker_makeStripe 32 = .ok (.iload_n 1, 1) := by decide +kernel
theorem d_Maker_makeStripe_33 : decode b_Maker_makeStripe 33 = .ok (.iconst 0, 1) := by decide +kernel
theorem d_Maker_makeStripe_34 : decode b_Maker_makeStripe 34 = .ok (.invokevirtual 74, 3) := by decide +kernel
theorem d_Maker_makeStripe_37 : decode b_Maker_makeStripe 37 = .ok (.invokevirtual 77, 3) := by decide +kernel
theorem d_Maker_makeStripe_40 : decode b_Maker_makeStripe 40 = .ok (.aload_n 0, 1) := by decide +kernel
theorem d_Maker_makeStripe_41 : decode b_Maker_makeStripe 41 = .ok (.getfield 9, 3) := by decide +kernel
theorem d_Maker_makeStripe_44 : decode b_Maker_makeStripe 44 = .ok (.iload_n 1, 1) := by decide +kernel
theorem d_Maker_makeStripe_45 : decode b_Maker_makeStripe 45 = .ok (.iconst 0, 1) := by decide +kernel
theorem d_Maker_makeStripe_46 : decode b_Maker_makeStripe 46 = .ok (.invokevirtual 81, 3) := by decide +kernel
theorem d_Maker_makeStripe_49 : decode b_Maker_makeStripe 49 = .ok (.iload_n 3, 1) := by decide +kernel
theorem d_Maker_makeStripe_50 : decode b_Maker_makeStripe 50 = .ok (.ifCond .le 33, 3) := by decide +kernel
theorem d_Maker_makeStripe_53 : decode b_Maker_makeStripe 53 = .ok (.aload_n 0, 1) := by decide +kernel
theorem d_Maker_makeStripe_54 : decode b_Maker_makeStripe 54 = .ok (.getfield 9, 3) := by decide +kernel
theorem d_Maker_makeStripe_57 : decode b_Maker_makeStripe 57 = .ok (.iload_n 1, 1) := by decide +kernel
theorem d_Maker_makeStripe_58 : decode b_Maker_makeStripe 58 = .ok (.iconst 1, 1) := by decide +kernel
theorem d_Maker_makeStripe_59 : decode b_Maker_makeStripe 59 = .ok (.invokevirtual 81, 3) := by decide +kernel
theorem d_Maker_makeStripe_62 : decode b_Maker_makeStripe 62 = .ok (.aload_n 0, 1) := by decide +kernel
theorem d_Maker_makeStripe_63 : decode b_Maker_makeStripe 63 = .ok (.iload_n 1, 1) := by decide +kernel
theorem d_Maker_makeStripe_64 : decode b_Maker_makeStripe 64 = .ok (.iconst 2, 1) := by decide +kernel
theorem d_Maker_makeStripe_65 : decode b_Maker_makeStripe 65 = .ok (.aload_n 0, 1) := by decide +kernel
theorem d_Maker_makeStripe_66 : decode b_Maker_makeStripe 66 = .ok (.iload_n 1, 1) := by decide +kernel
theorem d_Maker_makeStripe_67 : decode b_Maker_makeStripe 67 = .ok (.iconst 2, 1) := by decide +kernel
theorem d_Maker_makeStripe_68 : decode b_Maker_makeStripe 68 = .ok (.invokevirtual 74, 3) := by decide +kernel
theorem d_Maker_makeStripe_71 : decode b_Maker_makeStripe 71 = .ok (.invokevirtual 77, 3) := by decide +kernel
theorem d_Maker_makeStripe_74 : decode b_Maker_makeStripe 74 = .ok (.aload_n 0, 1) := by decide +kernel
theorem d_Maker_makeStripe_75 : decode b_Maker_makeStripe 75 = .ok (.getfield 9, 3) := by decide +kernel
theorem d_Maker_makeStripe_78 : decode b_Maker_makeStripe 78 = .ok (.iload_n 1, 1) := by decide +kernel
theorem d_Maker_makeStripe_79 : decode b_Maker_makeStripe 79 = .ok (.iconst 2, 1) := by decide +kernel
theorem d_Maker_makeStripe_80 : decode b_Maker_makeStripe 80 = .ok (.invokevirtual 81, 3) := by decide +kernel
theorem d_Maker_makeStripe_83 : decode b_Maker_makeStripe 83 = .ok (.iload_n 2, 1) := by decide +kernel
theorem d_Maker_makeStripe_84 : decode b_Maker_makeStripe 84 = .ok (.ifCond .eq 20, 3) := by decide +kernel
theorem d_Maker_makeStripe_87 : decode b_Maker_makeStripe 87 = .ok (.aload_n 0, 1) := by decide +kernel
theorem d_Maker_makeStripe_88 : decode b_Maker_makeStripe 88 = .ok (.iload_n 1, 1) := by decide +kernel
theorem d_Maker_makeStripe_89 : decode b_Maker_makeStripe 89 = .ok (.invokevirtual 85, 3) := by decide +kernel
theorem d_Maker_makeStripe_92 : decode b_Maker_makeStripe 92 = .ok (.ifCond .eq 12, 3) := by decide +kernel
theorem d_Maker_makeStripe_95 : decode b_Maker_makeStripe 95 = .ok (.aload_n 0, 1) := by decide +kernel
theorem d_Maker_makeStripe_96 : decode b_Maker_makeStripe 96 = .ok (.getfield 9, 3) := by decide +kernel
theorem d_Maker_makeStripe_99 : decode b_Maker_makeStripe 99 = .ok (.iload_n 1, 1) := by decide +kernel
theorem d_Maker_makeStripe_100 : decode b_Maker_makeStripe 100 = .ok (.iconst 3, 1) := by decide +kernel
theorem d_Maker_makeStripe_101 : decode b_Maker_makeStripe 101 = .ok (.invokevirtual 81, 3) := by decide +kernel
theorem d_Maker_makeStripe_104 : decode b_Maker_makeStripe 104 = .ok (.return_, 1) := by decide +kernel
abbrev b_Maker_makeAll : ByteArray := prog_4_method_2_code
def y_Maker_makeAll : MethodName := ⟨"MaskLayers$Maker", "makeAll", "(Z)I"⟩
theorem d_Maker_makeAll_0 : decode b_Maker_makeAll 0 = .ok (.aload_n 0, 1) := by decide +kernel
theorem d_Maker_makeAll_1 : decode b_Maker_makeAll 1 = .ok (.getfield 9, 3) := by decide +kernel
theorem d_Maker_makeAll_4 : decode b_Maker_makeAll 4 = .ok (.invokevirtual 25, 3) := by decide +kernel
theorem d_Maker_makeAll_7 : decode b_Maker_makeAll 7 = .ok (.aload_n 0, 1) := by decide +kernel
theorem d_Maker_makeAll_8 : decode b_Maker_makeAll 8 = .ok (.getfield 22, 3) := by decide +kernel
theorem d_Maker_makeAll_11 : decode b_Maker_makeAll 11 = .ok (.iconst 0, 1) := by decide +kernel
theorem d_Maker_makeAll_12 : decode b_Maker_makeAll 12 = .ok (.invokestatic 30, 3) := by decide +kernel
theorem d_Maker_makeAll_15 : decode b_Maker_makeAll 15 = .ok (.iconst 0, 1) := by decide +kernel
theorem d_Maker_makeAll_16 : decode b_Maker_makeAll 16 = .ok (.istore_n 2, 1) := by decide +kernel
theorem d_Maker_makeAll_17 : decode b_Maker_makeAll 17 = .ok (.iload_n 2, 1) := by decide +kernel
theorem d_Maker_makeAll_18 : decode b_Maker_makeAll 18 = .ok (.aload_n 0, 1) := by decide +kernel
theorem d_Maker_makeAll_19 : decode b_Maker_makeAll 19 = .ok (.getfield 9, 3) := by decide +kernel
theorem d_Maker_makeAll_22 : decode b_Maker_makeAll 22 = .ok (.invokevirtual 36, 3) := by decide +kernel
theorem d_Maker_makeAll_25 : decode b_Maker_makeAll 25 = .ok (.if_icmp .ge 15, 3) := by decide +kernel
theorem d_Maker_makeAll_28 : decode b_Maker_makeAll 28 = .ok (.aload_n 0, 1) := by decide +kernel
theorem d_Maker_makeAll_29 : decode b_Maker_makeAll 29 = .ok (.iload_n 2, 1) := by decide +kernel
theorem d_Maker_makeAll_30 : decode b_Maker_makeAll 30 = .ok (.iload_n 1, 1) := by decide +kernel
theorem d_Maker_makeAll_31 : decode b_Maker_makeAll 31 = .ok (.invokevirtual 40, 3) := by decide +kernel
theorem d_Maker_makeAll_34 : decode b_Maker_makeAll 34 = .ok (.iinc 2 1, 3) := by decide +kernel
theorem d_Maker_makeAll_37 : decode b_Maker_makeAll 37 = .ok (.goto (-20), 3) := by decide +kernel
theorem d_Maker_makeAll_40 : decode b_Maker_makeAll 40 = .ok (.aload_n 0, 1) := by decide +kernel
theorem d_Maker_makeAll_41 : decode b_Maker_makeAll 41 = .ok (.getfield 9, 3) := by decide +kernel
theorem d_Maker_makeAll_44 : decode b_Maker_makeAll 44 = .ok (.getfield 44, 3) := by decide +kernel
theorem d_Maker_makeAll_47 : decode b_Maker_makeAll 47 = .ok (.ireturn, 1) := by decide +kernel
abbrev b_Writer_runEnds : ByteArray := prog_6_method_6_code
def y_Writer_runEnds : MethodName := ⟨"MaskLayers$Writer", "runEnds", "(IIII)Z"⟩
theorem d_Writer_runEnds_0 : decode b_Writer_runEnds 0 = .ok (.iload_n 2, 1) := by decide +kernel
theorem d_Writer_runEnds_1 : decode b_Writer_runEnds 1 = .ok (.iconst 1, 1) := by decide +kernel
theorem d_Writer_runEnds_2 : decode b_Writer_runEnds 2 = .ok (.iadd, 1) := by decide +kernel
theorem d_Writer_runEnds_3 : decode b_Writer_runEnds 3 = .ok (.iload_n 3, 1) := by decide +kernel
theorem d_Writer_runEnds_4 : decode b_Writer_runEnds 4 = .ok (.if_icmp .ge 34, 3) := by decide +kernel
theorem d_Writer_runEnds_7 : decode b_Writer_runEnds 7 = .ok (.iload 4, 2) := by decide +kernel
theorem d_Writer_runEnds_9 : decode b_Writer_runEnds 9 = .ok (.sipush 255, 3) := by decide +kernel
theorem d_Writer_runEnds_12 : decode b_Writer_runEnds 12 = .ok (.if_icmp .ge 26, 3) := by decide +kernel
theorem d_Writer_runEnds_15 : decode b_Writer_runEnds 15 = .ok (.aload_n 0, 1) := by decide +kernel
theorem d_Writer_runEnds_16 : decode b_Writer_runEnds 16 = .ok (.getfield 9, 3) := by decide +kernel
theorem d_Writer_runEnds_19 : decode b_Writer_runEnds 19 = .ok (.iload_n 1, 1) := by decide +kernel
theorem d_Writer_runEnds_20 : decode b_Writer_runEnds 20 = .ok (.iload_n 2, 1) := by decide +kernel
theorem d_Writer_runEnds_21 : decode b_Writer_runEnds 21 = .ok (.iconst 1, 1) := by decide +kernel
theorem d_Writer_runEnds_22 : decode b_Writer_runEnds 22 = .ok (.iadd, 1) := by decide +kernel
theorem d_Writer_runEnds_23 : decode b_Writer_runEnds 23 = .ok (.invokevirtual 98, 3) := by decide +kernel
theorem d_Writer_runEnds_26 : decode b_Writer_runEnds 26 = .ok (.aload_n 0, 1) := by decide +kernel
theorem d_Writer_runEnds_27 : decode b_Writer_runEnds 27 = .ok (.getfield 9, 3) := by decide +kernel
theorem d_Writer_runEnds_30 : decode b_Writer_runEnds 30 = .ok (.iload_n 1, 1) := by decide +kernel
theorem d_Writer_runEnds_31 : decode b_Writer_runEnds 31 = .ok (.iload_n 2, 1) := by decide +kernel
theorem d_Writer_runEnds_32 : decode b_Writer_runEnds 32 = .ok (.invokevirtual 98, 3) := by decide +kernel
theorem d_Writer_runEnds_35 : decode b_Writer_runEnds 35 = .ok (.if_icmp .eq 7, 3) := by decide +kernel
theorem d_Writer_runEnds_38 : decode b_Writer_runEnds 38 = .ok (.iconst 1, 1) := by decide +kernel
theorem d_Writer_runEnds_39 : decode b_Writer_runEnds 39 = .ok (.goto 4, 3) := by decide +kernel
theorem d_Writer_runEnds_42 : decode b_Writer_runEnds 42 = .ok (.iconst 0, 1) := by decide +kernel
theorem d_Writer_runEnds_43 : decode b_Writer_runEnds 43 = .ok (.ireturn, 1) := by decide +kernel
abbrev b_Writer_countRuns : ByteArray := prog_6_method_5_code
def y_Writer_countRuns : MethodName := ⟨"MaskLayers$Writer", "countRuns", "(III)I"⟩
theorem d_Writer_countRuns_0 : decode b_Writer_countRuns 0 = .ok (.iconst 0, 1) := by decide +kernel
theorem d_Writer_countRuns_1 : decode b_Writer_countRuns 1 = .ok (.istore 4, 2) := by decide +kernel
theorem d_Writer_countRuns_3 : decode b_Writer_countRuns 3 = .ok (.iconst 0, 1) := by decide +kernel
theorem d_Writer_countRuns_4 : decode b_Writer_countRuns 4 = .ok (.istore 5, 2) := by decide +kernel
theorem d_Writer_countRuns_6 : decode b_Writer_countRuns 6 = .ok (.iload_n 2, 1) := by decide +kernel
theorem d_Writer_countRuns_7 : decode b_Writer_countRuns 7 = .ok (.istore 6, 2) := by decide +kernel
theorem d_Writer_countRuns_9 : decode b_Writer_countRuns 9 = .ok (.iload 6, 2) := by decide +kernel
theorem d_Writer_countRuns_11 : decode b_Writer_countRuns 11 = .ok (.iload_n 3, 1) := by decide +kernel
theorem d_Writer_countRuns_12 : decode b_Writer_countRuns 12 = .ok (.if_icmp .ge 31, 3) := by decide +kernel
theorem d_Writer_countRuns_15 : decode b_Writer_countRuns 15 = .ok (.iinc 5 1, 3) := by decide +kernel
theorem d_Writer_countRuns_18 : decode b_Writer_countRuns 18 = .ok (.aload_n 0, 1) := by decide +kernel
theorem d_Writer_countRuns_19 : decode b_Writer_countRuns 19 = .ok (.iload_n 1, 1) := by decide +kernel
