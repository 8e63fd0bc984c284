theorem d_Reader_readLayer_186 : decode b_Reader_readLayer 186 = .ok (.ireturn, 1) := by decide +kernel
theorem d_Reader_readLayer_187 : decode b_Reader_readLayer 187 = .ok (.aload_n 0, 1) := by decide +kernel
theorem d_Reader_readLayer_188 : decode b_Reader_readLayer 188 = .ok (.getfield 15, 3) := by decide +kernel
theorem d_Reader_readLayer_191 : decode b_Reader_readLayer 191 = .ok (.iload_n 1, 1) := by decide +kernel
theorem d_Reader_readLayer_192 : decode b_Reader_readLayer 192 = .ok (.iload_n 2, 1) := by decide +kernel
theorem d_Reader_readLayer_193 : decode b_Reader_readLayer 193 = .ok (.invokevirtual 106, 3) := by decide +kernel
theorem d_Reader_readLayer_196 : decode b_Reader_readLayer 196 = .ok (.iconst 1, 1) := by decide +kernel
theorem d_Reader_readLayer_197 : decode b_Reader_readLayer 197 = .ok (.ireturn, 1) := by decide +kernel
abbrev b_Reader_readStripe : ByteArray := prog_5_method_6_code
def y_Reader_readStripe : MethodName := ⟨"MaskLayers$Reader", "readStripe", "(I)Z"⟩
theorem d_Reader_readStripe_0 : decode b_Reader_readStripe 0 = .ok (.iconst (-1), 1) := by decide +kernel
theorem d_Reader_readStripe_1 : decode b_Reader_readStripe 1 = .ok (.istore_n 2, 1) := by decide +kernel
theorem d_Reader_readStripe_2 : decode b_Reader_readStripe 2 = .ok (.iconst 0, 1) := by decide +kernel
theorem d_Reader_readStripe_3 : decode b_Reader_readStripe 3 = .ok (.istore_n 3, 1) := by decide +kernel
theorem d_Reader_readStripe_4 : decode b_Reader_readStripe 4 = .ok (.iload_n 3, 1) := by decide +kernel
theorem d_Reader_readStripe_5 : decode b_Reader_readStripe 5 = .ok (.iconst 4, 1) := by decide +kernel
theorem d_Reader_readStripe_6 : decode b_Reader_readStripe 6 = .ok (.if_icmp .gt 112, 3) := by decide +kernel
theorem d_Reader_readStripe_9 : decode b_Reader_readStripe 9 = .ok (.aload_n 0, 1) := by decide +kernel
theorem d_Reader_readStripe_10 : decode b_Reader_readStripe 10 = .ok (.getfield 26, 3) := by decide +kernel
theorem d_Reader_readStripe_13 : decode b_Reader_readStripe 13 = .ok (.istore 4, 2) := by decide +kernel
theorem d_Reader_readStripe_15 : decode b_Reader_readStripe 15 = .ok (.aload_n 0, 1) := by decide +kernel
theorem d_Reader_readStripe_16 : decode b_Reader_readStripe 16 = .ok (.sipush 160, 3) := by decide +kernel
theorem d_Reader_readStripe_19 : decode b_Reader_readStripe 19 = .ok (.sipush 175, 3) := by decide +kernel
theorem d_Reader_readStripe_22 : decode b_Reader_readStripe 22 = .ok (.invokevirtual 65, 3) := by decide +kernel
theorem d_Reader_readStripe_25 : decode b_Reader_readStripe 25 = .ok (.istore 5, 2) := by decide +kernel
theorem d_Reader_readStripe_27 : decode b_Reader_readStripe 27 = .ok (.iload 5, 2) := by decide +kernel
theorem d_Reader_readStripe_29 : decode b_Reader_readStripe 29 = .ok (.iconst (-1), 1) := by decide +kernel
theorem d_Reader_readStripe_30 : decode b_Reader_readStripe 30 = .ok (.if_icmp .ne 5, 3) := by decide +kernel
theorem d_Reader_readStripe_33 : decode b_Reader_readStripe 33 = .ok (.iconst 0, 1) := by decide +kernel
theorem d_Reader_readStripe_34 : decode b_Reader_readStripe 34 = .ok (.ireturn, 1) := by decide +kernel
theorem d_Reader_readStripe_35 : decode b_Reader_readStripe 35 = .ok (.iload 5, 2) := by decide +kernel
theorem d_Reader_readStripe_37 : decode b_Reader_readStripe 37 = .ok (.sipush 160, 3) := by decide +kernel
theorem d_Reader_readStripe_40 : decode b_Reader_readStripe 40 = .ok (.isub, 1) := by decide +kernel
theorem d_Reader_readStripe_41 : decode b_Reader_readStripe 41 = .ok (.istore 6, 2) := by decide +kernel
theorem d_Reader_readStripe_43 : decode b_Reader_readStripe 43 = .ok (.iload 5, 2) := by decide +kernel
theorem d_Reader_readStripe_45 : decode b_Reader_readStripe 45 = .ok (.sipush 175, 3) := by decide +kernel
theorem d_Reader_readStripe_48 : decode b_Reader_readStripe 48 = .ok (.if_icmp .ne 26, 3) := by decide +kernel
theorem d_Reader_readStripe_51 : decode b_Reader_readStripe 51 = .ok (.aload_n 0, 1) := by decide +kernel
theorem d_Reader_readStripe_52 : decode b_Reader_readStripe 52 = .ok (.iload_n 1, 1) := by decide +kernel
theorem d_Reader_readStripe_53 : decode b_Reader_readStripe 53 = .ok (.invokevirtual 73, 3) := by decide +kernel
theorem d_Reader_readStripe_56 : decode b_Reader_readStripe 56 = .ok (.ifCond .ne 12, 3) := by decide +kernel
theorem d_Reader_readStripe_59 : decode b_Reader_readStripe 59 = .ok (.aload_n 0, 1) := by decide +kernel
theorem d_Reader_readStripe_60 : decode b_Reader_readStripe 60 = .ok (.iload 4, 2) := by decide +kernel
theorem d_Reader_readStripe_62 : decode b_Reader_readStripe 62 = .ok (.invokevirtual 52, 3) := by decide +kernel
theorem d_Reader_readStripe_65 : decode b_Reader_readStripe 65 = .ok (.ifCond .eq 7, 3) := by decide +kernel
theorem d_Reader_readStripe_68 : decode b_Reader_readStripe 68 = .ok (.iconst 1, 1) := by decide +kernel
theorem d_Reader_readStripe_69 : decode b_Reader_readStripe 69 = .ok (.goto 4, 3) := by decide +kernel
theorem d_Reader_readStripe_72 : decode b_Reader_readStripe 72 = .ok (.iconst 0, 1) := by decide +kernel
theorem d_Reader_readStripe_73 : decode b_Reader_readStripe 73 = .ok (.ireturn, 1) := by decide +kernel
theorem d_Reader_readStripe_74 : decode b_Reader_readStripe 74 = .ok (.iload 6, 2) := by decide +kernel
theorem d_Reader_readStripe_76 : decode b_Reader_readStripe 76 = .ok (.iload_n 2, 1) := by decide +kernel
theorem d_Reader_readStripe_77 : decode b_Reader_readStripe 77 = .ok (.if_icmp .le 13, 3) := by decide +kernel
theorem d_Reader_readStripe_80 : decode b_Reader_readStripe 80 = .ok (.aload_n 0, 1) := by decide +kernel
theorem d_Reader_readStripe_81 : decode b_Reader_readStripe 81 = .ok (.iload_n 1, 1) := by decide +kernel
theorem d_Reader_readStripe_82 : decode b_Reader_readStripe 82 = .ok (.iload 6, 2) := by decide +kernel
theorem d_Reader_readStripe_84 : decode b_Reader_readStripe 84 = .ok (.invokevirtual 76, 3) := by decide +kernel
theorem d_Reader_readStripe_87 : decode b_Reader_readStripe 87 = .ok (.ifCond .ne 10, 3) := by decide +kernel
theorem d_Reader_readStripe_90 : decode b_Reader_readStripe 90 = .ok (.aload_n 0, 1) := by decide +kernel
theorem d_Reader_readStripe_91 : decode b_Reader_readStripe 91 = .ok (.iload 4, 2) := by decide +kernel
theorem d_Reader_readStripe_93 : decode b_Reader_readStripe 93 = .ok (.invokevirtual 52, 3) := by decide +kernel
theorem d_Reader_readStripe_96 : decode b_Reader_readStripe 96 = .ok (.ireturn, 1) := by decide +kernel
theorem d_Reader_readStripe_97 : decode b_Reader_readStripe 97 = .ok (.aload_n 0, 1) := by decide +kernel
theorem d_Reader_readStripe_98 : decode b_Reader_readStripe 98 = .ok (.iload_n 1, 1) := by decide +kernel
theorem d_Reader_readStripe_99 : decode b_Reader_readStripe 99 = .ok (.iload 6, 2) := by decide +kernel
theorem d_Reader_readStripe_101 : decode b_Reader_readStripe 101 = .ok (.invokevirtual 80, 3) := by decide +kernel
theorem d_Reader_readStripe_104 : decode b_Reader_readStripe 104 = .ok (.ifCond .ne 5, 3) := by decide +kernel
theorem d_Reader_readStripe_107 : decode b_Reader_readStripe 107 = .ok (.iconst 0, 1) := by decide +kernel
theorem d_Reader_readStripe_108 : decode b_Reader_readStripe 108 = .ok (.ireturn, 1) := by decide +kernel
theorem d_Reader_readStripe_109 : decode b_Reader_readStripe 109 = .ok (.iload 6, 2) := by decide +kernel
theorem d_Reader_readStripe_111 : decode b_Reader_readStripe 111 = .ok (.istore_n 2, 1) := by decide +kernel
theorem d_Reader_readStripe_112 : decode b_Reader_readStripe 112 = .ok (.iinc 3 1, 3) := by decide +kernel
theorem d_Reader_readStripe_115 : decode b_Reader_readStripe 115 = .ok (.goto (-111), 3) := by decide +kernel
theorem d_Reader_readStripe_118 : decode b_Reader_readStripe 118 = .ok (.aload_n 0, 1) := by decide +kernel
theorem d_Reader_readStripe_119 : decode b_Reader_readStripe 119 = .ok (.aload_n 0, 1) := by decide +kernel
theorem d_Reader_readStripe_120 : decode b_Reader_readStripe 120 = .ok (.getfield 26, 3) := by decide +kernel
theorem d_Reader_readStripe_123 : decode b_Reader_readStripe 123 = .ok (.invokevirtual 52, 3) := by decide +kernel
theorem d_Reader_readStripe_126 : decode b_Reader_readStripe 126 = .ok (.ireturn, 1) := by decide +kernel
abbrev b_Reader_readHead : ByteArray := prog_5_method_5_code
def y_Reader_readHead : MethodName := ⟨"MaskLayers$Reader", "readHead", "()Z"⟩
theorem d_Reader_readHead_0 : decode b_Reader_readHead 0 = .ok (.iconst 0, 1) := by decide +kernel
theorem d_Reader_readHead_1 : decode b_Reader_readHead 1 = .ok (.istore_n 1, 1) := by decide +kernel
theorem d_Reader_readHead_2 : decode b_Reader_readHead 2 = .ok (.iload_n 1, 1) := by decide +kernel
theorem d_Reader_readHead_3 : decode b_Reader_readHead 3 = .ok (.aload_n 0, 1) := by decide +kernel
theorem d_Reader_readHead_4 : decode b_Reader_readHead 4 = .ok (.getfield 23, 3) := by decide +kernel
theorem d_Reader_readHead_7 : decode b_Reader_readHead 7 = .ok (.arraylength, 1) := by decide +kernel
theorem d_Reader_readHead_8 : decode b_Reader_readHead 8 = .ok (.if_icmp .ge 41, 3) := by decide +kernel
theorem d_Reader_readHead_11 : decode b_Reader_readHead 11 = .ok (.aload_n 0, 1) := by decide +kernel
theorem d_Reader_readHead_12 : decode b_Reader_readHead 12 = .ok (.getfield 23, 3) := by decide +kernel
theorem d_Reader_readHead_15 : decode b_Reader_readHead 15 = .ok (.iload_n 1, 1) := by decide +kernel
theorem d_Reader_readHead_16 : decode b_Reader_readHead 16 = .ok (.aload_n 0, 1) := by decide +kernel
theorem d_Reader_readHead_17 : decode b_Reader_readHead 17 = .ok (.getstatic 19, 3) := by decide +kernel
theorem d_Reader_readHead_20 : decode b_Reader_readHead 20 = .ok (.iload_n 1, 1) := by decide +kernel
theorem d_Reader_readHead_21 : decode b_Reader_readHead 21 = .ok (.iaload, 1) := by decide +kernel
theorem d_Reader_readHead_22 : decode b_Reader_readHead 22 = .ok (.getstatic 62, 3) := by decide +kernel
theorem d_Reader_readHead_25 : decode b_Reader_readHead 25 = .ok (.iload_n 1, 1) := by decide +kernel
theorem d_Reader_readHead_26 : decode b_Reader_readHead 26 = .ok (.iaload, 1) := by decide +kernel
theorem d_Reader_readHead_27 : decode b_Reader_readHead 27 = .ok (.invokevirtual 65, 3) := by decide +kernel
theorem d_Reader_readHead_30 : decode b_Reader_readHead 30 = .ok (.iastore, 1) := by decide +kernel
theorem d_Reader_readHead_31 : decode b_Reader_readHead 31 = .ok (.aload_n 0, 1) := by decide +kernel
theorem d_Reader_readHead_32 : decode b_Reader_readHead 32 = .ok (.getfield 23, 3) := by decide +kernel
theorem d_Reader_readHead_35 : decode b_Reader_readHead 35 = .ok (.iload_n 1, 1) := by decide +kernel
theorem d_Reader_readHead_36 : decode b_Reader_readHead 36 = .ok (.iaload, 1) := by decide +kernel
theorem d_Reader_readHead_37 : decode b_Reader_readHead 37 = .ok (.iconst (-1), 1) := by decide +kernel
theorem d_Reader_readHead_38 : decode b_Reader_readHead 38 = .ok (.if_icmp .ne 5, 3) := by decide +kernel
theorem d_Reader_readHead_41 : decode b_Reader_readHead 41 = .ok (.iconst 0, 1) := by decide +kernel
theorem d_Reader_readHead_42 : decode b_Reader_readHead 42 = .ok (.ireturn, 1) := by decide +kernel
theorem d_Reader_readHead_43 : decode b_Reader_readHead 43 = .ok (.iinc 1 1, 3) := by decide +kernel
theorem d_Reader_readHead_46 : decode b_Reader_readHead 46 = .ok (.goto (-44), 3) := by decide +kernel
theorem d_Reader_readHead_49 : decode b_Reader_readHead 49 = .ok (.aload_n 0, 1) := by decide +kernel
theorem d_Reader_readHead_50 : decode b_Reader_readHead 50 = .ok (.getfield 15, 3) := by decide +kernel
theorem d_Reader_readHead_53 : decode b_Reader_readHead 53 = .ok (.aload_n 0, 1) := by decide +kernel
theorem d_Reader_readHead_54 : decode b_Reader_readHead 54 = .ok (.getfield 23, 3) := by decide +kernel
theorem d_Reader_readHead_57 : decode b_Reader_readHead 57 = .ok (.iconst 2, 1) := by decide +kernel
theorem d_Reader_readHead_58 : decode b_Reader_readHead 58 = .ok (.iaload, 1) := by decide +kernel
theorem d_Reader_readHead_59 : decode b_Reader_readHead 59 = .ok (.aload_n 0, 1) := by decide +kernel
theorem d_Reader_readHead_60 : decode b_Reader_readHead 60 = .ok (.getfield 23, 3) := by decide +kernel
theorem d_Reader_readHead_63 : decode b_Reader_readHead 63 = .ok (.iconst 3, 1) := by decide +kernel
theorem d_Reader_readHead_64 : decode b_Reader_readHead 64 = .ok (.iaload, 1) := by decide +kernel
theorem d_Reader_readHead_65 : decode b_Reader_readHead 65 = .ok (.aload_n 0, 1) := by decide +kernel
theorem d_Reader_readHead_66 : decode b_Reader_readHead 66 = .ok (.getfield 23, 3) := by decide +kernel
theorem d_Reader_readHead_69 : decode b_Reader_readHead 69 = .ok (.iconst 4, 1) := by decide +kernel
theorem d_Reader_readHead_70 : decode b_Reader_readHead 70 = .ok (.iaload, 1) := by decide +kernel
theorem d_Reader_readHead_71 : decode b_Reader_readHead 71 = .ok (.aload_n 0, 1) := by decide +kernel
theorem d_Reader_readHead_72 : decode b_Reader_readHead 72 = .ok (.getfield 23, 3) := by decide +kernel
theorem d_Reader_readHead_75 : decode b_Reader_readHead 75 = .ok (.iconst 5, 1) := by decide +kernel
theorem d_Reader_readHead_76 : decode b_Reader_readHead 76 = .ok (.iaload, 1) := by decide +kernel
theorem d_Reader_readHead_77 : decode b_Reader_readHead 77 = .ok (.aload_n 0, 1) := by decide +kernel
theorem d_Reader_readHead_78 : decode b_Reader_readHead 78 = .ok (.getfield 23, 3) := by decide +kernel
theorem d_Reader_readHead_81 : decode b_Reader_readHead 81 = .ok (.bipush 6, 2) := by decide +kernel
theorem d_Reader_readHead_83 : decode b_Reader_readHead 83 = .ok (.iaload, 1) := by decide +kernel
theorem d_Reader_readHead_84 : decode b_Reader_readHead 84 = .ok (.invokevirtual 69, 3) := by decide +kernel
theorem d_Reader_readHead_87 : decode b_Reader_readHead 87 = .ok (.iconst 1, 1) := by decide +kernel
theorem d_Reader_readHead_88 : decode b_Reader_readHead 88 = .ok (.ireturn, 1) := by decide +kernel
abbrev b_Reader_readAll : ByteArray := prog_5_method_2_code
def y_Reader_readAll : MethodName := ⟨"MaskLayers$Reader", "readAll", "()I"⟩
theorem d_Reader_readAll_0 : decode b_Reader_readAll 0 = .ok (.aload_n 0, 1) := by decide +kernel
theorem d_Reader_readAll_1 : decode b_Reader_readAll 1 = .ok (.iconst 0, 1) := by decide +kernel
theorem d_Reader_readAll_2 : decode b_Reader_readAll 2 = .ok (.putfield 26, 3) := by decide +kernel
theorem d_Reader_readAll_5 : decode b_Reader_readAll 5 = .ok (.aload_n 0, 1) := by decide +kernel
theorem d_Reader_readAll_6 : decode b_Reader_readAll 6 = .ok (.getfield 15, 3) := by decide +kernel
theorem d_Reader_readAll_9 : decode b_Reader_readAll 9 = .ok (.invokevirtual 30, 3) := by decide +kernel
theorem d_Reader_readAll_12 : decode b_Reader_readAll 12 = .ok (.aload_n 0, 1) := by decide +kernel
theorem d_Reader_readAll_13 : decode b_Reader_readAll 13 = .ok (.invokevirtual 35, 3) := by decide +kernel
theorem d_Reader_readAll_16 : decode b_Reader_readAll 16 = .ok (.istore_n 1, 1) := by decide +kernel
theorem d_Reader_readAll_17 : decode b_Reader_readAll 17 = .ok (.iconst 0, 1) := by decide +kernel
theorem d_Reader_readAll_18 : decode b_Reader_readAll 18 = .ok (.istore_n 2, 1) := by decide +kernel
theorem d_Reader_readAll_19 : decode b_Reader_readAll 19 = .ok (.iload_n 1, 1) := by decide +kernel
theorem d_Reader_readAll_20 : decode b_Reader_readAll 20 = .ok (.ifCond .eq 26, 3) := by decide +kernel
theorem d_Reader_readAll_23 : decode b_Reader_readAll 23 = .ok (.iload_n 2, 1) := by decide +kernel
theorem d_Reader_readAll_24 : decode b_Reader_readAll 24 = .ok (.aload_n 0, 1) := by decide +kernel
theorem d_Reader_readAll_25 : decode b_Reader_readAll 25 = .ok (.getfield 15, 3) := by decide +kernel
theorem d_Reader_readAll_28 : decode b_Reader_readAll 28 = .ok (.invokevirtual 39, 3) := by decide +kernel
theorem d_Reader_readAll_31 : decode b_Reader_readAll 31 = .ok (.if_icmp .ge 15, 3) := by decide +kernel
theorem d_Reader_readAll_34 : decode b_Reader_readAll 34 = .ok (.aload_n 0, 1) := by decide +kernel
theorem d_Reader_readAll_35 : decode b_Reader_readAll 35 = .ok (.iload_n 2, 1) := by decide +kernel
theorem d_Reader_readAll_36 : decode b_Reader_readAll 36 = .ok (.invokevirtual 43, 3) := by decide +kernel
theorem d_Reader_readAll_39 : decode b_Reader_readAll 39 = .ok (.istore_n 1, 1) := by decide +kernel
theorem d_Reader_readAll_40 : decode b_Reader_readAll 40 = .ok (.iinc 2 1, 3) := by decide +kernel
theorem d_Reader_readAll_43 : decode b_Reader_readAll 43 = .ok (.goto (-24), 3) := by decide +kernel
theorem d_Reader_readAll_46 : decode b_Reader_readAll 46 = .ok (.iload_n 1, 1) := by decide +kernel
theorem d_Reader_readAll_47 : decode b_Reader_readAll 47 = .ok (.ifCond .eq 26, 3) := by decide +kernel
theorem d_Reader_readAll_50 : decode b_Reader_readAll 50 = .ok (.aload_n 0, 1) := by decide +kernel
theorem d_Reader_readAll_51 : decode b_Reader_readAll 51 = .ok (.getfield 26, 3) := by decide +kernel
theorem d_Reader_readAll_54 : decode b_Reader_readAll 54 = .ok (.aload_n 0, 1) := by decide +kernel
theorem d_Reader_readAll_55 : decode b_Reader_readAll 55 = .ok (.getfield 9, 3) := by decide +kernel
theorem d_Reader_readAll_58 : decode b_Reader_readAll 58 = .ok (.getfield 47, 3) := by decide +kernel
theorem d_Reader_readAll_61 : decode b_Reader_readAll 61 = .ok (.if_icmp .ge 12, 3) := by decide +kernel
theorem d_Reader_readAll_64 : decode b_Reader_readAll 64 = .ok (.aload_n 0, 1) := by decide +kernel
theorem d_Reader_readAll_65 : decode b_Reader_readAll 65 = .ok (.aload_n 0, 1) := by decide +kernel
theorem d_Reader_readAll_66 : decode b_Reader_readAll 66 = .ok (.getfield 26, 3) := by decide +kernel
theorem d_Reader_readAll_69 : decode b_Reader_readAll 69 = .ok (.invokevirtual 52, 3) := by decide +kernel
theorem d_Reader_readAll_72 : decode b_Reader_readAll 72 = .ok (.istore_n 1, 1) := by decide +kernel
theorem d_Reader_readAll_73 : decode b_Reader_readAll 73 = .ok (.iload_n 1, 1) := by decide +kernel
theorem d_Reader_readAll_74 : decode b_Reader_readAll 74 = .ok (.ifCond .eq 11, 3) := by decide +kernel
theorem d_Reader_readAll_77 : decode b_Reader_readAll 77 = .ok (.aload_n 0, 1) := by decide +kernel
theorem d_Reader_readAll_78 : decode b_Reader_readAll 78 = .ok (.getfield 15, 3) := by decide +kernel
theorem d_Reader_readAll_81 : decode b_Reader_readAll 81 = .ok (.getfield 55, 3) := by decide +kernel
theorem d_Reader_readAll_84 : decode b_Reader_readAll 84 = .ok (.ireturn, 1) := by decide +kernel
theorem d_Reader_readAll_85 : decode b_Reader_readAll 85 = .ok (.aload_n 0, 1) := by decide +kernel
theorem d_Reader_readAll_86 : decode b_Reader_readAll 86 = .ok (.getfield 15, 3) := by decide +kernel
theorem d_Reader_readAll_89 : decode b_Reader_readAll 89 = .ok (.invokevirtual 30, 3) := by decide +kernel
theorem d_Reader_readAll_92 : decode b_Reader_readAll 92 = .ok (.iconst (-1), 1) := by decide +kernel
theorem d_Reader_readAll_93 : decode b_Reader_readAll 93 = .ok (.aload_n 0, 1) := by decide +kernel
theorem d_Reader_readAll_94 : decode b_Reader_readAll 94 = .ok (.getfield 56, 3) := by decide +kernel
theorem d_Reader_readAll_97 : decode b_Reader_readAll 97 = .ok (.isub, 1) := by decide +kernel
theorem d_Reader_readAll_98 : decode b_Reader_readAll 98 = .ok (.ireturn, 1) := by decide +kernel
abbrev b_ByteRow_append : ByteArray := prog_2_method_6_code
def y_ByteRow_append : MethodName := ⟨"MaskLayers$ByteRow", "append", "(I)V"⟩
theorem d_ByteRow_append_0 : decode b_ByteRow_append 0 = .ok (.aload_n 0, 1) := by decide +kernel
theorem d_ByteRow_append_1 : decode b_ByteRow_append 1 = .ok (.invokevirtual 23, 3) := by decide +kernel
theorem d_ByteRow_append_4 : decode b_ByteRow_append 4 = .ok (.iconst 1, 1) := by decide +kernel
theorem d_ByteRow_append_5 : decode b_ByteRow_append 5 = .ok (.if_icmp .ge 4, 3) := by decide +kernel
theorem d_ByteRow_append_8 : decode b_ByteRow_append 8 = .ok (.return_, 1) := by decide +kernel
theorem d_ByteRow_append_9 : decode b_ByteRow_append 9 = .ok (.aload_n 0, 1) := by decide +kernel
theorem d_ByteRow_append_10 : decode b_ByteRow_append 10 = .ok (.getfield 15, 3) := by decide +kernel
theorem d_ByteRow_append_13 : decode b_ByteRow_append 13 = .ok (.aload_n 0, 1) := by decide +kernel
theorem d_ByteRow_append_14 : decode b_ByteRow_append 14 = .ok (.getfield 9, 3) := by decide +kernel
theorem d_ByteRow_append_17 : decode b_ByteRow_append 17 = .ok (.arraylength, 1) := by decide +kernel
theorem d_ByteRow_append_18 : decode b_ByteRow_append 18 = .ok (.if_icmp .ne 29, 3) := by decide +kernel
theorem d_ByteRow_append_21 : decode b_ByteRow_append 21 = .ok (.aload_n 0, 1) := by decide +kernel
theorem d_ByteRow_append_22 : decode b_ByteRow_append 22 = .ok (.aload_n 0, 1) := by decide +kernel
theorem d_ByteRow_append_23 : decode b_ByteRow_append 23 = .ok (.getfield 9, 3) := by decide +kernel
theorem d_ByteRow_append_26 : decode b_ByteRow_append 26 = .ok (.sipush 6400, 3) := by decide +kernel
theorem d_ByteRow_append_29 : decode b_ByteRow_append 29 = .ok (.iconst 2, 1) := by decide +kernel
theorem d_ByteRow_append_30 : decode b_ByteRow_append 30 = .ok (.aload_n 0, 1) := by decide +kernel
theorem d_ByteRow_append_31 : decode b_ByteRow_append 31 = .ok (.getfield 15, 3) := by decide +kernel
theorem d_ByteRow_append_34 : decode b_ByteRow_append 34 = .ok (.imul, 1) := by decide +kernel
theorem d_ByteRow_append_35 : decode b_ByteRow_append 35 = .ok (.bipush 64, 2) := by decide +kernel
theorem d_ByteRow_append_37 : decode b_ByteRow_append 37 = .ok (.iadd, 1) := by decide +kernel
theorem d_ByteRow_append_38 : decode b_ByteRow_append 38 = .ok (.invokestatic 27, 3) := by decide +kernel
theorem d_ByteRow_append_41 : decode b_ByteRow_append 41 = .ok (.invokestatic 33, 3) := by decide +kernel
theorem d_ByteRow_append_44 : decode b_ByteRow_append 44 = .ok (.putfield 9, 3) := by decide +kernel
theorem d_ByteRow_append_47 : decode b_ByteRow_append 47 = .ok (.aload_n 0, 1) := by decide +kernel
theorem d_ByteRow_append_48 : decode b_ByteRow_append 48 = .ok (.getfield 9, 3) := by decide +kernel
theorem d_ByteRow_append_51 : decode b_ByteRow_append 51 = .ok (.aload_n 0, 1) := by decide +kernel
theorem d_ByteRow_append_52 : decode b_ByteRow_append 52 = .ok (.getfield 15, 3) := by decide +kernel
theorem d_ByteRow_append_55 : decode b_ByteRow_append 55 = .ok (.iload_n 1, 1) := by decide +kernel
theorem d_ByteRow_append_56 : decode b_ByteRow_append 56 = .ok (.iastore, 1) := by decide +kernel
theorem d_ByteRow_append_57 : decode b_ByteRow_append 57 = .ok (.aload_n 0, 1) := by decide +kernel
theorem d_ByteRow_append_58 : decode b_ByteRow_append 58 = .ok (.dup, 1) := by decide +kernel
theorem d_ByteRow_append_59 : decode b_ByteRow_append 59 = .ok (.getfield 15, 3) := by decide +kernel
theorem d_ByteRow_append_62 : decode b_ByteRow_append 62 = .ok (.iconst 1, 1) := by decide +kernel
theorem d_ByteRow_append_63 : decode b_ByteRow_append 63 = .ok (.iadd, 1) := by decide +kernel
theorem d_ByteRow_append_64 : decode b_ByteRow_append 64 = .ok (.putfield 15, 3) := by decide +kernel
theorem d_ByteRow_append_67 : decode b_ByteRow_append 67 = .ok (.return_, 1) := by decide +kernel
abbrev b_Writer_writeValue : ByteArray := prog_6_method_10_code
def y_Writer_writeValue : MethodName := ⟨"MaskLayers$Writer", "writeValue", "(II)V"⟩
theorem d_Writer_writeValue_0 : decode b_Writer_writeValue 0 = .ok (.iload_n 1, 1) := by decide +kernel
theorem d_Writer_writeValue_1 : decode b_Writer_writeValue 1 = .ok (.iconst 1, 1) := by decide +kernel
theorem d_Writer_writeValue_2 : decode b_Writer_writeValue 2 = .ok (.if_icmp .eq 25, 3) := by decide +kernel
theorem d_Writer_writeValue_5 : decode b_Writer_writeValue 5 = .ok (.aload_n 0, 1) := by decide +kernel
theorem d_Writer_writeValue_6 : decode b_Writer_writeValue 6 = .ok (.getfield 15, 3) := by decide +kernel
theorem d_Writer_writeValue_9 : decode b_Writer_writeValue 9 = .ok (.iload_n 2, 1) := by decide +kernel
theorem d_Writer_writeValue_10 : decode b_Writer_writeValue 10 = .ok (.invokestatic 104, 3) := by decide +kernel
theorem d_Writer_writeValue_13 : decode b_Writer_writeValue 13 = .ok (.invokevirtual 41, 3) := by decide +kernel
theorem d_Writer_writeValue_16 : decode b_Writer_writeValue 16 = .ok (.aload_n 0, 1) := by decide +kernel
theorem d_Writer_writeValue_17 : decode b_Writer_writeValue 17 = .ok (.getfield 15, 3) := by decide +kernel
theorem d_Writer_writeValue_20 : decode b_Writer_writeValue 20 = .ok (.iload_n 2, 1) := by decide +kernel
theorem d_Writer_writeValue_21 : decode b_Writer_writeValue 21 = .ok (.invokestatic 107, 3) := by decide +kernel
theorem d_Writer_writeValue_24 : decode b_Writer_writeValue 24 = .ok (.invokevirtual 41, 3) := by decide +kernel
theorem d_Writer_writeValue_27 : decode b_Writer_writeValue 27 = .ok (.aload_n 0, 1) := by decide +kernel
theorem d_Writer_writeValue_28 : decode b_Writer_writeValue 28 = .ok (.getfield 15, 3) := by decide +kernel
theorem d_Writer_writeValue_31 : decode b_Writer_writeValue 31 = .ok (.iload_n 2, 1) := by decide +kernel
theorem d_Writer_writeValue_32 : decode b_Writer_writeValue 32 = .ok (.invokestatic 110, 3) := by decide +kernel
theorem d_Writer_writeValue_35 : decode b_Writer_writeValue 35 = .ok (.invokevirtual 41, 3) := by decide +kernel
theorem d_Writer_writeValue_38 : decode b_Writer_writeValue 38 = .ok (.return_, 1) := by decide +kernel
abbrev b_Writer_writeValues : ByteArray := prog_6_method_9_code
def y_Writer_writeValues : MethodName := ⟨"MaskLayers$Writer", "writeValues", "(III)V"⟩
theorem d_Writer_writeValues_0 : decode b_Writer_writeValues 0 = .ok (.iload_n 2, 1) := by decide +kernel
theorem d_Writer_writeValues_1 : decode b_Writer_writeValues 1 = .ok (.istore 4, 2) := by decide +kernel
theorem d_Writer_writeValues_3 : decode b_Writer_writeValues 3 = .ok (.iload 4, 2) := by decide +kernel
theorem d_Writer_writeValues_5 : decode b_Writer_writeValues 5 = .ok (.iload_n 3, 1) := by decide +kernel
theorem d_Writer_writeValues_6 : decode b_Writer_writeValues 6 = .ok (.if_icmp .ge 24, 3) := by decide +kernel
theorem d_Writer_writeValues_9 : decode b_Writer_writeValues 9 = .ok (.aload_n 0, 1) := by decide +kernel
theorem d_Writer_writeValues_10 : decode b_Writer_writeValues 10 = .ok (.iload_n 1, 1) := by decide +kernel
theorem d_Writer_writeValues_11 : decode b_Writer_writeValues 11 = .ok (.aload_n 0, 1) := by decide +kernel
theorem d_Writer_writeValues_12 : decode b_Writer_writeValues 12 = .ok (.getfield 9, 3) := by decide +kernel
theorem d_Writer_writeValues_15 : decode b_Writer_writeValues 15 = .ok (.iload_n 1, 1) := by decide +kernel
theorem d_Writer_writeValues_16 : decode b_Writer_writeValues 16 = .ok (.iload 4, 2) := by decide +kernel
theorem d_Writer_writeValues_18 : decode b_Writer_writeValues 18 = .ok (.invokevirtual 98, 3) := by decide +kernel
theorem d_Writer_writeValues_21 : decode b_Writer_writeValues 21 = .ok (.invokevirtual 101, 3) := by decide +kernel
theorem d_Writer_writeValues_24 : decode b_Writer_writeValues 24 = .ok (.iinc 4 1, 3) := by decide +kernel
theorem d_Writer_writeValues_27 : decode b_Writer_writeValues 27 = .ok (.goto (-24), 3) := by decide +kernel
theorem d_Writer_writeValues_30 : decode b_Writer_writeValues 30 = .ok (.return_, 1) := by decide +kernel
abbrev b_Writer_writeRuns : ByteArray := prog_6_method_7_code
def y_Writer_writeRuns : MethodName := ⟨"MaskLayers$Writer", "writeRuns", "(III)V"⟩
theorem d_Writer_writeRuns_0 : decode b_Writer_writeRuns 0 = .ok (.iconst 0, 1) := by decide +kernel
theorem d_Writer_writeRuns_1 : decode b_Writer_writeRuns 1 = .ok (.istore 4, 2) := by decide +kernel
theorem d_Writer_writeRuns_3 : decode b_Writer_writeRuns 3 = .ok (.iload_n 2, 1) := by decide +kernel
theorem d_Writer_writeRuns_4 : decode b_Writer_writeRuns 4 = .ok (.istore 5, 2) := by decide +kernel
theorem d_Writer_writeRuns_6 : decode b_Writer_writeRuns 6 = .ok (.iload 5, 2) := by decide +kernel
theorem d_Writer_writeRuns_8 : decode b_Writer_writeRuns 8 = .ok (.iload_n 3, 1) := by decide +kernel
theorem d_Writer_writeRuns_9 : decode b_Writer_writeRuns 9 = .ok (.if_icmp .ge 52, 3) := by decide +kernel
theorem d_Writer_writeRuns_12 : decode b_Writer_writeRuns 12 = .ok (.iinc 4 1, 3) := by decide +kernel
theorem d_Writer_writeRuns_15 : decode b_Writer_writeRuns 15 = .ok (.aload_n 0, 1) := by decide +kernel
theorem d_Writer_writeRuns_16 : decode b_Writer_writeRuns 16 = .ok (.iload_n 1, 1) := by decide +kernel
theorem d_Writer_writeRuns_17 : decode b_Writer_writeRuns 17 = .ok (.iload 5, 2) := by decide +kernel
theorem d_Writer_writeRuns_19 : decode b_Writer_writeRuns 19 = .ok (.iload_n 3, 1) := by decide +kernel
theorem d_Writer_writeRuns_20 : decode b_Writer_writeRuns 20 = .ok (.iload 4, 2) := by decide +kernel
theorem d_Writer_writeRuns_22 : decode b_Writer_writeRuns 22 = .ok (.invokevirtual 94, 3) := by decide +kernel
theorem d_Writer_writeRuns_25 : decode b_Writer_writeRuns 25 = .ok (.ifCond .eq 30, 3) := by decide +kernel
theorem d_Writer_writeRuns_28 : decode b_Writer_writeRuns 28 = .ok (.aload_n 0, 1) := by decide +kernel
theorem d_Writer_writeRuns_29 : decode b_Writer_writeRuns 29 = .ok (.getfield 15, 3) := by decide +kernel
theorem d_Writer_writeRuns_32 : decode b_Writer_writeRuns 32 = .ok (.iload 4, 2) := by decide +kernel
theorem d_Writer_writeRuns_34 : decode b_Writer_writeRuns 34 = .ok (.invokevirtual 41, 3) := by decide +kernel
theorem d_Writer_writeRuns_37 : decode b_Writer_writeRuns 37 = .ok (.aload_n 0, 1) := by decide +kernel
theorem d_Writer_writeRuns_38 : decode b_Writer_writeRuns 38 = .ok (.iload_n 1, 1) := by decide +kernel
theorem d_Writer_writeRuns_39 : decode b_Writer_writeRuns 39 = .ok (.aload_n 0, 1) := by decide +kernel
theorem d_Writer_writeRuns_40 : decode b_Writer_writeRuns 40 = .ok (.getfield 9, 3) := by decide +kernel
theorem d_Writer_writeRuns_43 : decode b_Writer_writeRuns 43 = .ok (.iload_n 1, 1) := by decide +kernel
theorem d_Writer_writeRuns_44 : decode b_Writer_writeRuns 44 = .ok (.iload 5, 2) := by decide +kernel
theorem d_Writer_writeRuns_46 : decode b_Writer_writeRuns 46 = .ok (.invokevirtual 98, 3) := by decide +kernel
theorem d_Writer_writeRuns_49 : decode b_Writer_writeRuns 49 = .ok (.invokevirtual 101, 3) := by decide +kernel
theorem d_Writer_writeRuns_52 : decode b_Writer_writeRuns 52 = .ok (.iconst 0, 1) := by decide +kernel
theorem d_Writer_writeRuns_53 : decode b_Writer_writeRuns 53 = .ok (.istore 4, 2) := by decide +kernel
theorem d_Writer_writeRuns_55 : decode b_Writer_writeRuns 55 = .ok (.iinc 5 1, 3) := by decide +kernel
theorem d_Writer_writeRuns_58 : decode b_Writer_writeRuns 58 = .ok (.goto (-52), 3) := by decide +kernel
theorem d_Writer_writeRuns_61 : decode b_Writer_writeRuns 61 = .ok (.return_, 1) := by decide +kernel
abbrev b_Writer_writeBits : ByteArray := prog_6_method_8_code
def y_Writer_writeBits : MethodName := ⟨"MaskLayers$Writer", "writeBits", "(II)V"⟩
theorem d_Writer_writeBits_0 : decode b_Writer_writeBits 0 = .ok (.iload_n 1, 1) := by decide +kernel
theorem d_Writer_writeBits_1 : decode b_Writer_writeBits 1 = .ok (.istore_n 3, 1) := by decide +kernel
theorem d_Writer_writeBits_2 : decode b_Writer_writeBits 2 = .ok (.iload_n 3, 1) := by decide +kernel
theorem d_Writer_writeBits_3 : decode b_Writer_writeBits 3 = .ok (.iload_n 2, 1) := by decide +kernel
theorem d_Writer_writeBits_4 : decode b_Writer_writeBits 4 = .ok (.if_icmp .ge 66, 3) := by decide +kernel
theorem d_Writer_writeBits_7 : decode b_Writer_writeBits 7 = .ok (.iconst 0, 1) := by decide +kernel
theorem d_Writer_writeBits_8 : decode b_Writer_writeBits 8 = .ok (.istore 4, 2) := by decide +kernel
theorem d_Writer_writeBits_10 : decode b_Writer_writeBits 10 = .ok (.iload_n 3, 1) := by decide +kernel
theorem d_Writer_writeBits_11 : decode b_Writer_writeBits 11 = .ok (.istore 5, 2) := by decide +kernel
theorem d_Writer_writeBits_13 : decode b_Writer_writeBits 13 = .ok (.iload 5, 2) := by decide +kernel
theorem d_Writer_writeBits_15 : decode b_Writer_writeBits 15 = .ok (.iload_n 3, 1) := by decide +kernel
theorem d_Writer_writeBits_16 : decode b_Writer_writeBits 16 = .ok (.bipush 8, 2) := by decide +kernel
theorem d_Writer_writeBits_18 : decode b_Writer_writeBits 18 = .ok (.iadd, 1) := by decide +kernel
theorem d_Writer_writeBits_19 : decode b_Writer_writeBits 19 = .ok (.if_icmp .ge 36, 3) := by decide +kernel
theorem d_Writer_writeBits_22 : decode b_Writer_writeBits 22 = .ok (.iload 4, 2) := by decide +kernel
theorem d_Writer_writeBits_24 : decode b_Writer_writeBits 24 = .ok (.iconst 1, 1) := by decide +kernel
theorem d_Writer_writeBits_25 : decode b_Writer_writeBits 25 = .ok (.ishl, 1) := by decide +kernel
theorem d_Writer_writeBits_26 : decode b_Writer_writeBits 26 = .ok (.iload 5, 2) := by decide +kernel
theorem d_Writer_writeBits_28 : decode b_Writer_writeBits 28 = .ok (.iload_n 2, 1) := by decide +kernel
theorem d_Writer_writeBits_29 : decode b_Writer_writeBits 29 = .ok (.if_icmp .ge 16, 3) := by decide +kernel
theorem d_Writer_writeBits_32 : decode b_Writer_writeBits 32 = .ok (.aload_n 0, 1) := by decide +kernel
theorem d_Writer_writeBits_33 : decode b_Writer_writeBits 33 = .ok (.getfield 9, 3) := by decide +kernel
theorem d_Writer_writeBits_36 : decode b_Writer_writeBits 36 = .ok (.iconst 1, 1) := by decide +kernel
theorem d_Writer_writeBits_37 : decode b_Writer_writeBits 37 = .ok (.iload 5, 2) := by decide +kernel
theorem d_Writer_writeBits_39 : decode b_Writer_writeBits 39 = .ok (.invokevirtual 98, 3) := by decide +kernel
theorem d_Writer_writeBits_42 : decode b_Writer_writeBits 42 = .ok (.goto 4, 3) := by decide +kernel
theorem d_Writer_writeBits_45 : decode b_Writer_writeBits 45 = .ok (.iconst 0, 1) := by decide +kernel
theorem d_Writer_writeBits_46 : decode b_Writer_writeBits 46 = .ok (.ior, 1) := by decide +kernel
theorem d_Writer_writeBits_47 : decode b_Writer_writeBits 47 = .ok (.istore 4, 2) := by decide +kernel
theorem d_Writer_writeBits_49 : decode b_Writer_writeBits 49 = .ok (.iinc 5 1, 3) := by decide +kernel
theorem d_Writer_writeBits_52 : decode b_Writer_writeBits 52 = .ok (.goto (-39), 3) := by decide +kernel
theorem d_Writer_writeBits_55 : decode b_Writer_writeBits 55 = .ok (.aload_n 0, 1) := by decide +kernel
theorem d_Writer_writeBits_56 : decode b_Writer_writeBits 56 = .ok (.getfield 15, 3) := by decide +kernel
theorem d_Writer_writeBits_59 : decode b_Writer_writeBits 59 = .ok (.iload 4, 2) := by decide +kernel
theorem d_Writer_writeBits_61 : decode b_Writer_writeBits 61 = .ok (.invokevirtual 41, 3) := by decide +kernel
theorem d_Writer_writeBits_64 : decode b_Writer_writeBits 64 = .ok (.iinc 3 8, 3) := by decide +kernel
theorem d_Writer_writeBits_67 : decode b_Writer_writeBits 67 = .ok (.goto (-65), 3) := by decide +kernel
theorem d_Writer_writeBits_70 : decode b_Writer_writeBits 70 = .ok (.return_, 1) := by decide +kernel
abbrev b_Writer_writeHead : ByteArray := prog_6_method_3_code
def y_Writer_writeHead : MethodName := ⟨"MaskLayers$Writer", "writeHead", "()V"⟩
theorem d_Writer_writeHead_0 : decode b_Writer_writeHead 0 = .ok (.aload_n 0, 1) := by decide +kernel
theorem d_Writer_writeHead_1 : decode b_Writer_writeHead 1 = .ok (.getfield 15, 3) := by decide +kernel
theorem d_Writer_writeHead_4 : decode b_Writer_writeHead 4 = .ok (.bipush 77, 2) := by decide +kernel
theorem d_Writer_writeHead_6 : decode b_Writer_writeHead 6 = .ok (.invokevirtual 41, 3) := by decide +kernel
theorem d_Writer_writeHead_9 : decode b_Writer_writeHead 9 = .ok (.aload_n 0, 1) := by decide +kernel
theorem d_Writer_writeHead_10 : decode b_Writer_writeHead 10 = .ok (.getfield 15, 3) := by decide +kernel
theorem d_Writer_writeHead_13 : decode b_Writer_writeHead 13 = .ok (.bipush 76, 2) := by decide +kernel
theorem d_Writer_writeHead_15 : decode b_Writer_writeHead 15 = .ok (.invokevirtual 41, 3) := by decide +kernel
theorem d_Writer_writeHead_18 : decode b_Writer_writeHead 18 = .ok (.aload_n 0, 1) := by decide +kernel
theorem d_Writer_writeHead_19 : decode b_Writer_writeHead 19 = .ok (.getfield 15, 3) := by decide +kernel
theorem d_Writer_writeHead_22 : decode b_Writer_writeHead 22 = .ok (.aload_n 0, 1) := by decide +kernel
theorem d_Writer_writeHead_23 : decode b_Writer_writeHead 23 = .ok (.getfield 9, 3) := by decide +kernel
theorem d_Writer_writeHead_26 : decode b_Writer_writeHead 26 = .ok (.getfield 49, 3) := by decide +kernel
theorem d_Writer_writeHead_29 : decode b_Writer_writeHead 29 = .ok (.invokevirtual 41, 3) := by decide +kernel
theorem d_Writer_writeHead_32 : decode b_Writer_writeHead 32 = .ok (.aload_n 0, 1) := by decide +kernel
theorem d_Writer_writeHead_33 : decode b_Writer_writeHead 33 = .ok (.getfield 15, 3) := by decide +kernel
theorem d_Writer_writeHead_36 : decode b_Writer_writeHead 36 = .ok (.aload_n 0, 1) := by decide +kernel
theorem d_Writer_writeHead_37 : decode b_Writer_writeHead 37 = .ok (.getfield 9, 3) := by decide +kernel
theorem d_Writer_writeHead_40 : decode b_Writer_writeHead 40 = .ok (.getfield 52, 3) := by decide +kernel
theorem d_Writer_writeHead_43 : decode b_Writer_writeHead 43 = .ok (.invokevirtual 41, 3) := by decide +kernel
theorem d_Writer_writeHead_46 : decode b_Writer_writeHead 46 = .ok (.aload_n 0, 1) := by decide +kernel
theorem d_Writer_writeHead_47 : decode b_Writer_writeHead 47 = .ok (.getfield 15, 3) := by decide +kernel
theorem d_Writer_writeHead_50 : decode b_Writer_writeHead 50 = .ok (.aload_n 0, 1) := by decide +kernel
theorem d_Writer_writeHead_51 : decode b_Writer_writeHead 51 = .ok (.getfield 9, 3) := by decide +kernel
theorem d_Writer_writeHead_54 : decode b_Writer_writeHead 54 = .ok (.getfield 55, 3) := by decide +kernel
theorem d_Writer_writeHead_57 : decode b_Writer_writeHead 57 = .ok (.invokevirtual 41, 3) := by decide +kernel
theorem d_Writer_writeHead_60 : decode b_Writer_writeHead 60 = .ok (.aload_n 0, 1) := by decide +kernel
theorem d_Writer_writeHead_61 : decode b_Writer_writeHead 61 = .ok (.getfield 15, 3) := by decide +kernel
theorem d_Writer_writeHead_64 : decode b_Writer_writeHead 64 = .ok (.aload_n 0, 1) := by decide +kernel
theorem d_Writer_writeHead_65 : decode b_Writer_writeHead 65 = .ok (.getfield 9, 3) := by decide +kernel
theorem d_Writer_writeHead_68 : decode b_Writer_writeHead 68 = .ok (.getfield 58, 3) := by decide +kernel
theorem d_Writer_writeHead_71 : decode b_Writer_writeHead 71 = .ok (.invokevirtual 41, 3) := by decide +kernel
theorem d_Writer_writeHead_74 : decode b_Writer_writeHead 74 = .ok (.aload_n 0, 1) := by decide +kernel
theorem d_Writer_writeHead_75 : decode b_Writer_writeHead 75 = .ok (.getfield 15, 3) := by decide +kernel
theorem d_Writer_writeHead_78 : decode b_Writer_writeHead 78 = .ok (.aload_n 0, 1) := by decide +kernel
theorem d_Writer_writeHead_79 : decode b_Writer_writeHead 79 = .ok (.getfield 9, 3) := by decide +kernel
theorem d_Writer_writeHead_82 : decode b_Writer_writeHead 82 = .ok (.getfield 61, 3) := by decide +kernel
theorem d_Writer_writeHead_85 : decode b_Writer_writeHead 85 = .ok (.invokevirtual 41, 3) := by decide +kernel
theorem d_Writer_writeHead_88 : decode b_Writer_writeHead 88 = .ok (.return_, 1) := by decide +kernel
abbrev b_Writer_writeLayer : ByteArray := prog_6_method_4_code
def y_Writer_writeLayer : MethodName := ⟨"MaskLayers$Writer", "writeLayer", "(II)V"⟩
theorem d_Writer_writeLayer_0 : decode b_Writer_writeLayer 0 = .ok (.aload_n 0, 1) := by decide +kernel
theorem d_Writer_writeLayer_1 : decode b_Writer_writeLayer 1 = .ok (.getfield 9, 3) := by decide +kernel
theorem d_Writer_writeLayer_4 : decode b_Writer_writeLayer 4 = .ok (.iload_n 1, 1) := by decide +kernel
theorem d_Writer_writeLayer_5 : decode b_Writer_writeLayer 5 = .ok (.invokevirtual 64, 3) := by decide +kernel
theorem d_Writer_writeLayer_8 : decode b_Writer_writeLayer 8 = .ok (.istore_n 3, 1) := by decide +kernel
theorem d_Writer_writeLayer_9 : decode b_Writer_writeLayer 9 = .ok (.aload_n 0, 1) := by decide +kernel
theorem d_Writer_writeLayer_10 : decode b_Writer_writeLayer 10 = .ok (.getfield 9, 3) := by decide +kernel
theorem d_Writer_writeLayer_13 : decode b_Writer_writeLayer 13 = .ok (.iload_n 1, 1) := by decide +kernel
theorem d_Writer_writeLayer_14 : decode b_Writer_writeLayer 14 = .ok (.iload_n 2, 1) := by decide +kernel
theorem d_Writer_writeLayer_15 : decode b_Writer_writeLayer 15 = .ok (.invokevirtual 68, 3) := by decide +kernel
theorem d_Writer_writeLayer_18 : decode b_Writer_writeLayer 18 = .ok (.istore 4, 2) := by decide +kernel
theorem d_Writer_writeLayer_20 : decode b_Writer_writeLayer 20 = .ok (.iload_n 2, 1) := by decide +kernel
theorem d_Writer_writeLayer_21 : decode b_Writer_writeLayer 21 = .ok (.iload 4, 2) := by decide +kernel
theorem d_Writer_writeLayer_23 : decode b_Writer_writeLayer 23 = .ok (.iload_n 3, 1) := by decide +kernel
theorem d_Writer_writeLayer_24 : decode b_Writer_writeLayer 24 = .ok (.isub, 1) := by decide +kernel
theorem d_Writer_writeLayer_25 : decode b_Writer_writeLayer 25 = .ok (.invokestatic 72, 3) := by decide +kernel
theorem d_Writer_writeLayer_28 : decode b_Writer_writeLayer 28 = .ok (.istore 5, 2) := by decide +kernel
theorem d_Writer_writeLayer_30 : decode b_Writer_writeLayer 30 = .ok (.aload_n 0, 1) := by decide +kernel
theorem d_Writer_writeLayer_31 : decode b_Writer_writeLayer 31 = .ok (.iload_n 2, 1) := by decide +kernel
