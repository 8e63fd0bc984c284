theorem d_Reader_readHead_26 : decode b_Reader_readHead 26 = .ok (.iaload, 1) := by decide +kernel
theorem d_Reader_readHead_27 : decode b_Reader_readHead 27 = .ok (.invokevirtual 65, 3) := by decide +kernel
theorem d_Reader_readHead_30 : decode b_Reader_readHead 30 = .ok (.iastore, 1) := by decide +kernel
theorem d_Reader_readHead_31 : decode b_Reader_readHead 31 = .ok (.aload_n 0, 1) := by decide +kernel
theorem d_Reader_readHead_32 : decode b_Reader_readHead 32 = .ok (.getfield 23, 3) := by decide +kernel
theorem d_Reader_readHead_35 : decode b_Reader_readHead 35 = .ok (.iload_n 1, 1) := by decide +kernel
theorem d_Reader_readHead_36 : decode b_Reader_readHead 36 = .ok (.iaload, 1) := by decide +kernel
theorem d_Reader_readHead_37 : decode b_Reader_readHead 37 = .ok (.iconst (-1), 1) := by decide +kernel
theorem d_Reader_readHead_38 : decode b_Reader_readHead 38 = .ok (.if_icmp .ne 5, 3) := by decide +kernel
theorem d_Reader_readHead_41 : decode b_Reader_readHead 41 = .ok (.iconst 0, 1) := by decide +kernel
theorem d_Reader_readHead_42 : decode b_Reader_readHead 42 = .ok (.ireturn, 1) := by decide +kernel
theorem d_Reader_readHead_43 : decode b_Reader_readHead 43 = .ok (.iinc 1 1, 3) := by decide +kernel
theorem d_Reader_readHead_46 : decode b_Reader_readHead 46 = .ok (.goto (-44), 3) := by decide +kernel
theorem d_Reader_readHead_49 : decode b_Reader_readHead 49 = .ok (.aload_n 0, 1) := by decide +kernel
theorem d_Reader_readHead_50 : decode b_Reader_readHead 50 = .ok (.getfield 15, 3) := by decide +kernel
theorem d_Reader_readHead_53 : decode b_Reader_readHead 53 = .ok (.aload_n 0, 1) := by decide +kernel
theorem d_Reader_readHead_54 : decode b_Reader_readHead 54 = .ok (.getfield 23, 3) := by decide +kernel
theorem d_Reader_readHead_57 : decode b_Reader_readHead 57 = .ok (.iconst 2, 1) := by decide +kernel
theorem d_Reader_readHead_58 : decode b_Reader_readHead 58 = .ok (.iaload, 1) := by decide +kernel
theorem d_Reader_readHead_59 : decode b_Reader_readHead 59 = .ok (.aload_n 0, 1) := by decide +kernel
theorem d_Reader_readHead_60 : decode b_Reader_readHead 60 = .ok (.getfield 23, 3) := by decide +kernel
theorem d_Reader_readHead_63 : decode b_Reader_readHead 63 = .ok (.iconst 3, 1) := by decide +kernel
theorem d_Reader_readHead_64 : decode b_Reader_readHead 64 = .ok (.iaload, 1) := by decide +kernel
theorem d_Reader_readHead_65 : decode b_Reader_readHead 65 = .ok (.aload_n 0, 1) := by decide +kernel
theorem d_Reader_readHead_66 : decode b_Reader_readHead 66 = .ok (.getfield 23, 3) := by decide +kernel
theorem d_Reader_readHead_69 : decode b_Reader_readHead 69 = .ok (.iconst 4, 1) := by decide +kernel
theorem d_Reader_readHead_70 : decode b_Reader_readHead 70 = .ok (.iaload, 1) := by decide +kernel
theorem d_Reader_readHead_71 : decode b_Reader_readHead 71 = .ok (.aload_n 0, 1) := by decide +kernel
theorem d_Reader_readHead_72 : decode b_Reader_readHead 72 = .ok (.getfield 23, 3) := by decide +kernel
theorem d_Reader_readHead_75 : decode b_Reader_readHead 75 = .ok (.iconst 5, 1) := by decide +kernel
theorem d_Reader_readHead_76 : decode b_Reader_readHead 76 = .ok (.iaload, 1) := by decide +kernel
theorem d_Reader_readHead_77 : decode b_Reader_readHead 77 = .ok (.aload_n 0, 1) := by decide +kernel
theorem d_Reader_readHead_78 : decode b_Reader_readHead 78 = .ok (.getfield 23, 3) := by decide +kernel
theorem d_Reader_readHead_81 : decode b_Reader_readHead 81 = .ok (.bipush 6, 2) := by decide +kernel
theorem d_Reader_readHead_83 : decode b_Reader_readHead 83 = .ok (.iaload, 1) := by decide +kernel
theorem d_Reader_readHead_84 : decode b_Reader_readHead 84 = .ok (.invokevirtual 69, 3) := by decide +kernel
theorem d_Reader_readHead_87 : decode b_Reader_readHead 87 = .ok (.iconst 1, 1) := by decide +kernel
theorem d_Reader_readHead_88 : decode b_Reader_readHead 88 = .ok (.ireturn, 1) := by decide +kernel
abbrev b_Reader_readAll : ByteArray := prog_5_method_2_code
def y_Reader_readAll : MethodName := ⟨"MaskLayers$Reader", "readAll", "()I"⟩
theorem d_Reader_readAll_0 : decode b_Reader_readAll 0 = .ok (.aload_n 0, 1) := by decide +kernel
theorem d_Reader_readAll_1 : decode b_Reader_readAll 1 = .ok (.iconst 0, 1) := by decide +kernel
theorem d_Reader_readAll_2 : decode b_Reader_readAll 2 = .ok (.putfield 26, 3) := by decide +kernel
theorem d_Reader_readAll_5 : decode b_Reader_readAll 5 = .ok (.aload_n 0, 1) := by decide +kernel
theorem d_Reader_readAll_6 : decode b_Reader_readAll 6 = .ok (.getfield 15, 3) := by decide +kernel
theorem d_Reader_readAll_9 : decode b_Reader_readAll 9 = .ok (.invokevirtual 30, 3) := by decide +kernel
theorem d_Reader_readAll_12 : decode b_Reader_readAll 12 = .ok (.aload_n 0, 1) := by decide +kernel
theorem d_Reader_readAll_13 : decode b_Reader_readAll 13 = .ok (.invokevirtual 35, 3) := by decide +kernel
theorem d_Reader_readAll_16 : decode b_Reader_readAll 16 = .ok (.istore_n 1, 1) := by decide +kernel
theorem d_Reader_readAll_17 : decode b_Reader_readAll 17 = .ok (.iconst 0, 1) := by decide +kernel
theorem d_Reader_readAll_18 : decode b_Reader_readAll 18 = .ok (.istore_n 2, 1) := by decide +kernel
theorem d_Reader_readAll_19 : decode b_Reader_readAll 19 = .ok (.iload_n 1, 1) := by decide +kernel
theorem d_Reader_readAll_20 : decode b_Reader_readAll 20 = .ok (.ifCond .eq 26, 3) := by decide +kernel
theorem d_Reader_readAll_23 : decode b_Reader_readAll 23 = .ok (.iload_n 2, 1) := by decide +kernel
theorem d_Reader_readAll_24 : decode b_Reader_readAll 24 = .ok (.aload_n 0, 1) := by decide +kernel
theorem d_Reader_readAll_25 : decode b_Reader_readAll 25 = .ok (.getfield 15, 3) := by decide +kernel
theorem d_Reader_readAll_28 : decode b_Reader_readAll 28 = .ok (.invokevirtual 39, 3) := by decide +kernel
theorem d_Reader_readAll_31 : decode b_Reader_readAll 31 = .ok (.if_icmp .ge 15, 3) := by decide +kernel
theorem d_Reader_readAll_34 : decode b_Reader_readAll 34 = .ok (.aload_n 0, 1) := by decide +kernel
theorem d_Reader_readAll_35 : decode b_Reader_readAll 35 = .ok (.iload_n 2, 1) := by decide +kernel
theorem d_Reader_readAll_36 : decode b_Reader_readAll 36 = .ok (.invokevirtual 43, 3) := by decide +kernel
theorem d_Reader_readAll_39 : decode b_Reader_readAll 39 = .ok (.istore_n 1, 1) := by decide +kernel
theorem d_Reader_readAll_40 : decode b_Reader_readAll 40 = .ok (.iinc 2 1, 3) := by decide +kernel
theorem d_Reader_readAll_43 : decode b_Reader_readAll 43 = .ok (.goto (-24), 3) := by decide +kernel
theorem d_Reader_readAll_46 : decode b_Reader_readAll 46 = .ok (.iload_n 1, 1) := by decide +kernel
theorem d_Reader_readAll_47 : decode b_Reader_readAll 47 = .ok (.ifCond .eq 26, 3) := by decide +kernel
theorem d_Reader_readAll_50 : decode b_Reader_readAll 50 = .ok (.aload_n 0, 1) := by decide +kernel
theorem d_Reader_readAll_51 : decode b_Reader_readAll 51 = .ok (.getfield 26, 3) := by decide +kernel
theorem d_Reader_readAll_54 : decode b_Reader_readAll 54 = .ok (.aload_n 0, 1) := by decide +kernel
theorem d_Reader_readAll_55 : decode b_Reader_readAll 55 = .ok (.getfield 9, 3) := by decide +kernel
theorem d_Reader_readAll_58 : decode b_Reader_readAll 58 = .ok (.getfield 47, 3) := by decide +kernel
theorem d_Reader_readAll_61 : decode b_Reader_readAll 61 = .ok (.if_icmp .ge 12, 3) := by decide +kernel
theorem d_Reader_readAll_64 : decode b_Reader_readAll 64 = .ok (.aload_n 0, 1) := by decide +kernel
theorem d_Reader_readAll_65 : decode b_Reader_readAll 65 = .ok (.aload_n 0, 1) := by decide +kernel
theorem d_Reader_readAll_66 : decode b_Reader_readAll 66 = .ok (.getfield 26, 3) := by decide +kernel
theorem d_Reader_readAll_69 : decode b_Reader_readAll 69 = .ok (.invokevirtual 52, 3) := by decide +kernel
theorem d_Reader_readAll_72 : decode b_Reader_readAll 72 = .ok (.istore_n 1, 1) := by decide +kernel
theorem d_Reader_readAll_73 : decode b_Reader_readAll 73 = .ok (.iload_n 1, 1) := by decide +kernel
theorem d_Reader_readAll_74 : decode b_Reader_readAll 74 = .ok (.ifCond .eq 11, 3) := by decide +kernel
theorem d_Reader_readAll_77 : decode b_Reader_readAll 77 = .ok (.aload_n 0, 1) := by decide +kernel
theorem d_Reader_readAll_78 : decode b_Reader_readAll 78 = .ok (.getfield 15, 3) := by decide +kernel
theorem d_Reader_readAll_81 : decode b_Reader_readAll 81 = .ok (.getfield 55, 3) := by decide +kernel
theorem d_Reader_readAll_84 : decode b_Reader_readAll 84 = .ok (.ireturn, 1) := by decide +kernel
theorem d_Reader_readAll_85 : decode b_Reader_readAll 85 = .ok (.aload_n 0, 1) := by decide +kernel
theorem d_Reader_readAll_86 : decode b_Reader_readAll 86 = .ok (.getfield 15, 3) := by decide +kernel
theorem d_Reader_readAll_89 : decode b_Reader_readAll 89 = .ok (.invokevirtual 30, 3) := by decide +kernel
theorem d_Reader_readAll_92 : decode b_Reader_readAll 92 = .ok (.iconst (-1), 1) := by decide +kernel
theorem d_Reader_readAll_93 : decode b_Reader_readAll 93 = .ok (.aload_n 0, 1) := by decide +kernel
theorem d_Reader_readAll_94 : decode b_Reader_readAll 94 = .ok (.getfield 56, 3) := by decide +kernel
theorem d_Reader_readAll_97 : decode b_Reader_readAll 97 = .ok (.isub, 1) := by decide +kernel
theorem d_Reader_readAll_98 : decode b_Reader_readAll 98 = .ok (.ireturn, 1) := by decide +kernel
abbrev b_ByteRow_append : ByteArray := prog_2_method_6_code
def y_ByteRow_append : MethodName := ⟨"MaskLayers$ByteRow", "append", "(I)V"⟩
theorem d_ByteRow_append_0 : decode b_ByteRow_append 0 = .ok (.aload_n 0, 1) := by decide +kernel
theorem d_ByteRow_append_1 : decode b_ByteRow_append 1 = .ok (.invokevirtual 23, 3) := by decide +kernel
theorem d_ByteRow_append_4 : decode b_ByteRow_append 4 = .ok (.iconst 1, 1) := by decide +kernel
theorem d_ByteRow_append_5 : decode b_ByteRow_append 5 = .ok (.if_icmp .ge 4, 3) := by decide +kernel
theorem d_ByteRow_append_8 : decode b_ByteRow_append 8 = .ok (.return_, 1) := by decide +kernel
theorem d_ByteRow_append_9 : decode b_ByteRow_append 9 = .ok (.aload_n 0, 1) := by decide +kernel
theorem d_ByteRow_append_10 : decode b_ByteRow_append 10 = .ok (.getfield 15, 3) := by decide +kernel
theorem d_ByteRow_append_13 : decode b_ByteRow_append 13 = .ok (.aload_n 0, 1) := by decide +kernel
theorem d_ByteRow_append_14 : decode b_ByteRow_append 14 = .ok (.getfield 9, 3) := by decide +kernel
theorem d_ByteRow_append_17 : decode b_ByteRow_append 17 = .ok (.arraylength, 1) := by decide +kernel
theorem d_ByteRow_append_18 : decode b_ByteRow_append 18 = .ok (.if_icmp .ne 29, 3) := by decide +kernel
theorem d_ByteRow_append_21 : decode b_ByteRow_append 21 = .ok (.aload_n 0, 1) := by decide +kernel
theorem d_ByteRow_append_22 : decode b_ByteRow_append 22 = .ok (.aload_n 0, 1) := by decide +kernel
theorem d_ByteRow_append_23 : decode b_ByteRow_append 23 = .ok (.getfield 9, 3) := by decide +kernel
theorem d_ByteRow_append_26 : decode b_ByteRow_append 26 = .ok (.sipush 6400, 3) := by decide +kernel
theorem d_ByteRow_append_29 : decode b_ByteRow_append 29 = .ok (.iconst 2, 1) := by decide +kernel
theorem d_ByteRow_append_30 : decode b_ByteRow_append 30 = .ok (.aload_n 0, 1) := by decide +kernel
theorem d_ByteRow_append_31 : decode b_ByteRow_append 31 = .ok (.getfield 15, 3) := by decide +kernel
theorem d_ByteRow_append_34 : decode b_ByteRow_append 34 = .ok (.imul, 1) := by decide +kernel
theorem d_ByteRow_append_35 : decode b_ByteRow_append 35 = .ok (.bipush 64, 2) := by decide +kernel
theorem d_ByteRow_append_37 : decode b_ByteRow_append 37 = .ok (.iadd, 1) := by decide +kernel
theorem d_ByteRow_append_38 : decode b_ByteRow_append 38 = .ok (.invokestatic 27, 3) := by decide +kernel
theorem d_ByteRow_append_41 : decode b_ByteRow_append 41 = .ok (.invokestatic 33, 3) := by decide +kernel
theorem d_ByteRow_append_44 : decode b_ByteRow_append 44 = .ok (.putfield 9, 3) := by decide +kernel
theorem d_ByteRow_append_47 : decode b_ByteRow_append 47 = .ok (.aload_n 0, 1) := by decide +kernel
theorem d_ByteRow_append_48 : decode b_ByteRow_append 48 = .ok (.getfield 9, 3) := by decide +kernel
theorem d_ByteRow_append_51 : decode b_ByteRow_append 51 = .ok (.aload_n 0, 1) := by decide +kernel
theorem d_ByteRow_append_52 : decode b_ByteRow_append 52 = .ok (.getfield 15, 3) := by decide +kernel
theorem d_ByteRow_append_55 : decode b_ByteRow_append 55 = .ok (.iload_n 1, 1) := by decide +kernel
theorem d_ByteRow_append_56 : decode b_ByteRow_append 56 = .ok (.iastore, 1) := by decide +kernel
theorem d_ByteRow_append_57 : decode b_ByteRow_append 57 = .ok (.aload_n 0, 1) := by decide +kernel
theorem d_ByteRow_append_58 : decode b_ByteRow_append 58 = .ok (.dup, 1) := by decide +kernel
theorem d_ByteRow_append_59 : decode b_ByteRow_append 59 = .ok (.getfield 15, 3) := by decide +kernel
theorem d_ByteRow_append_62 : decode b_ByteRow_append 62 = .ok (.iconst 1, 1) := by decide +kernel
theorem d_ByteRow_append_63 : decode b_ByteRow_append 63 = .ok (.iadd, 1) := by decide +kernel
theorem d_ByteRow_append_64 : decode b_ByteRow_append 64 = .ok (.putfield 15, 3) := by decide +kernel
theorem d_ByteRow_append_67 : decode b_ByteRow_append 67 = .ok (.return_, 1) := by decide +kernel
abbrev b_Writer_writeValue : ByteArray := prog_6_method_10_code
def y_Writer_writeValue : MethodName := ⟨"MaskLayers$Writer", "writeValue", "(II)V"⟩
theorem d_Writer_writeValue_0 : decode b_Writer_writeValue 0 = .ok (.iload_n 1, 1) := by decide +kernel
theorem d_Writer_writeValue_1 : decode b_Writer_writeValue 1 = .ok (.iconst 1, 1) := by decide +kernel
theorem d_Writer_writeValue_2 : decode b_Writer_writeValue 2 = .ok (.if_icmp .eq 25, 3) := by decide +kernel
theorem d_Writer_writeValue_5 : decode b_Writer_writeValue 5 = .ok (.aload_n 0, 1) := by decide +kernel
theorem d_Writer_writeValue_6 : decode b_Writer_writeValue 6 = .ok (.getfield 15, 3) := by decide +kernel
theorem d_Writer_writeValue_9 : decode b_Writer_writeValue 9 = .ok (.iload_n 2, 1) := by decide +kernel
theorem d_Writer_writeValue_10 : decode b_Writer_writeValue 10 = .ok (.invokestatic 103, 3) := by decide +kernel
theorem d_Writer_writeValue_13 : decode b_Writer_writeValue 13 = .ok (.invokevirtual 41, 3) := by decide +kernel
theorem d_Writer_writeValue_16 : decode b_Writer_writeValue 16 = .ok (.aload_n 0, 1) := by decide +kernel
theorem d_Writer_writeValue_17 : decode b_Writer_writeValue 17 = .ok (.getfield 15, 3) := by decide +kernel
theorem d_Writer_writeValue_20 : decode b_Writer_writeValue 20 = .ok (.iload_n 2, 1) := by decide +kernel
theorem d_Writer_writeValue_21 : decode b_Writer_writeValue 21 = .ok (.invokestatic 106, 3) := by decide +kernel
theorem d_Writer_writeValue_24 : decode b_Writer_writeValue 24 = .ok (.invokevirtual 41, 3) := by decide +kernel
theorem d_Writer_writeValue_27 : decode b_Writer_writeValue 27 = .ok (.aload_n 0, 1) := by decide +kernel
theorem d_Writer_writeValue_28 : decode b_Writer_writeValue 28 = .ok (.getfield 15, 3) := by decide +kernel
theorem d_Writer_writeValue_31 : decode b_Writer_writeValue 31 = .ok (.iload_n 2, 1) := by decide +kernel
theorem d_Writer_writeValue_32 : decode b_Writer_writeValue 32 = .ok (.invokestatic 109, 3) := by decide +kernel
theorem d_Writer_writeValue_35 : decode b_Writer_writeValue 35 = .ok (.invokevirtual 41, 3) := by decide +kernel
theorem d_Writer_writeValue_38 : decode b_Writer_writeValue 38 = .ok (.return_, 1) := by decide +kernel
abbrev b_Writer_writeValues : ByteArray := prog_6_method_9_code
def y_Writer_writeValues : MethodName := ⟨"MaskLayers$Writer", "writeValues", "(III)V"⟩
theorem d_Writer_writeValues_0 : decode b_Writer_writeValues 0 = .ok (.iload_n 2, 1) := by decide +kernel
theorem d_Writer_writeValues_1 : decode b_Writer_writeValues 1 = .ok (.istore 4, 2) := by decide +kernel
theorem d_Writer_writeValues_3 : decode b_Writer_writeValues 3 = .ok (.iload 4, 2) := by decide +kernel
theorem d_Writer_writeValues_5 : decode b_Writer_writeValues 5 = .ok (.iload_n 3, 1) := by decide +kernel
theorem d_Writer_writeValues_6 : decode b_Writer_writeValues 6 = .ok (.if_icmp .ge 26, 3) := by decide +kernel
theorem d_Writer_writeValues_9 : decode b_Writer_writeValues 9 = .ok (.aload_n 0, 1) := by decide +kernel
theorem d_Writer_writeValues_10 : decode b_Writer_writeValues 10 = .ok (.iload_n 1, 1) := by decide +kernel
theorem d_Writer_writeValues_11 : decode b_Writer_writeValues 11 = .ok (.aload_n 0, 1) := by decide +kernel
theorem d_Writer_writeValues_12 : decode b_Writer_writeValues 12 = .ok (.getfield 9, 3) := by decide +kernel
theorem d_Writer_writeValues_15 : decode b_Writer_writeValues 15 = .ok (.getfield 73, 3) := by decide +kernel
theorem d_Writer_writeValues_18 : decode b_Writer_writeValues 18 = .ok (.iload_n 1, 1) := by decide +kernel
theorem d_Writer_writeValues_19 : decode b_Writer_writeValues 19 = .ok (.aaload, 1) := by decide +kernel
theorem d_Writer_writeValues_20 : decode b_Writer_writeValues 20 = .ok (.iload 4, 2) := by decide +kernel
theorem d_Writer_writeValues_22 : decode b_Writer_writeValues 22 = .ok (.iaload, 1) := by decide +kernel
theorem d_Writer_writeValues_23 : decode b_Writer_writeValues 23 = .ok (.invokevirtual 100, 3) := by decide +kernel
theorem d_Writer_writeValues_26 : decode b_Writer_writeValues 26 = .ok (.iinc 4 1, 3) := by decide +kernel
theorem d_Writer_writeValues_29 : decode b_Writer_writeValues 29 = .ok (.goto (-26), 3) := by decide +kernel
theorem d_Writer_writeValues_32 : decode b_Writer_writeValues 32 = .ok (.return_, 1) := by decide +kernel
abbrev b_Writer_writeRuns : ByteArray := prog_6_method_7_code
def y_Writer_writeRuns : MethodName := ⟨"MaskLayers$Writer", "writeRuns", "(III)V"⟩
theorem d_Writer_writeRuns_0 : decode b_Writer_writeRuns 0 = .ok (.aload_n 0, 1) := by decide +kernel
theorem d_Writer_writeRuns_1 : decode b_Writer_writeRuns 1 = .ok (.getfield 9, 3) := by decide +kernel
theorem d_Writer_writeRuns_4 : decode b_Writer_writeRuns 4 = .ok (.getfield 73, 3) := by decide +kernel
theorem d_Writer_writeRuns_7 : decode b_Writer_writeRuns 7 = .ok (.iload_n 1, 1) := by decide +kernel
theorem d_Writer_writeRuns_8 : decode b_Writer_writeRuns 8 = .ok (.aaload, 1) := by decide +kernel
theorem d_Writer_writeRuns_9 : decode b_Writer_writeRuns 9 = .ok (.astore 4, 2) := by decide +kernel
theorem d_Writer_writeRuns_11 : decode b_Writer_writeRuns 11 = .ok (.iconst 0, 1) := by decide +kernel
theorem d_Writer_writeRuns_12 : decode b_Writer_writeRuns 12 = .ok (.istore 5, 2) := by decide +kernel
theorem d_Writer_writeRuns_14 : decode b_Writer_writeRuns 14 = .ok (.iload_n 2, 1) := by decide +kernel
theorem d_Writer_writeRuns_15 : decode b_Writer_writeRuns 15 = .ok (.istore 6, 2) := by decide +kernel
theorem d_Writer_writeRuns_17 : decode b_Writer_writeRuns 17 = .ok (.iload 6, 2) := by decide +kernel
theorem d_Writer_writeRuns_19 : decode b_Writer_writeRuns 19 = .ok (.iload_n 3, 1) := by decide +kernel
theorem d_Writer_writeRuns_20 : decode b_Writer_writeRuns 20 = .ok (.if_icmp .ge 47, 3) := by decide +kernel
theorem d_Writer_writeRuns_23 : decode b_Writer_writeRuns 23 = .ok (.iinc 5 1, 3) := by decide +kernel
theorem d_Writer_writeRuns_26 : decode b_Writer_writeRuns 26 = .ok (.aload 4, 2) := by decide +kernel
theorem d_Writer_writeRuns_28 : decode b_Writer_writeRuns 28 = .ok (.iload 6, 2) := by decide +kernel
theorem d_Writer_writeRuns_30 : decode b_Writer_writeRuns 30 = .ok (.iload_n 3, 1) := by decide +kernel
theorem d_Writer_writeRuns_31 : decode b_Writer_writeRuns 31 = .ok (.iload 5, 2) := by decide +kernel
theorem d_Writer_writeRuns_33 : decode b_Writer_writeRuns 33 = .ok (.invokestatic 96, 3) := by decide +kernel
theorem d_Writer_writeRuns_36 : decode b_Writer_writeRuns 36 = .ok (.ifCond .eq 25, 3) := by decide +kernel
theorem d_Writer_writeRuns_39 : decode b_Writer_writeRuns 39 = .ok (.aload_n 0, 1) := by decide +kernel
theorem d_Writer_writeRuns_40 : decode b_Writer_writeRuns 40 = .ok (.getfield 15, 3) := by decide +kernel
theorem d_Writer_writeRuns_43 : decode b_Writer_writeRuns 43 = .ok (.iload 5, 2) := by decide +kernel
theorem d_Writer_writeRuns_45 : decode b_Writer_writeRuns 45 = .ok (.invokevirtual 41, 3) := by decide +kernel
theorem d_Writer_writeRuns_48 : decode b_Writer_writeRuns 48 = .ok (.aload_n 0, 1) := by decide +kernel
theorem d_Writer_writeRuns_49 : decode b_Writer_writeRuns 49 = .ok (.iload_n 1, 1) := by decide +kernel
theorem d_Writer_writeRuns_50 : decode b_Writer_writeRuns 50 = .ok (.aload 4, 2) := by decide +kernel
theorem d_Writer_writeRuns_52 : decode b_Writer_writeRuns 52 = .ok (.iload 6, 2) := by decide +kernel
theorem d_Writer_writeRuns_54 : decode b_Writer_writeRuns 54 = .ok (.iaload, 1) := by decide +kernel
theorem d_Writer_writeRuns_55 : decode b_Writer_writeRuns 55 = .ok (.invokevirtual 100, 3) := by decide +kernel
theorem d_Writer_writeRuns_58 : decode b_Writer_writeRuns 58 = .ok (.iconst 0, 1) := by decide +kernel
theorem d_Writer_writeRuns_59 : decode b_Writer_writeRuns 59 = .ok (.istore 5, 2) := by decide +kernel
theorem d_Writer_writeRuns_61 : decode b_Writer_writeRuns 61 = .ok (.iinc 6 1, 3) := by decide +kernel
theorem d_Writer_writeRuns_64 : decode b_Writer_writeRuns 64 = .ok (.goto (-47), 3) := by decide +kernel
theorem d_Writer_writeRuns_67 : decode b_Writer_writeRuns 67 = .ok (.return_, 1) := by decide +kernel
abbrev b_Writer_writeBits : ByteArray := prog_6_method_8_code
def y_Writer_writeBits : MethodName := ⟨"MaskLayers$Writer", "writeBits", "(II)V"⟩
theorem d_Writer_writeBits_0 : decode b_Writer_writeBits 0 = .ok (.aload_n 0, 1) := by decide +kernel
theorem d_Writer_writeBits_1 : decode b_Writer_writeBits 1 = .ok (.getfield 9, 3) := by decide +kernel
theorem d_Writer_writeBits_4 : decode b_Writer_writeBits 4 = .ok (.getfield 73, 3) := by decide +kernel
theorem d_Writer_writeBits_7 : decode b_Writer_writeBits 7 = .ok (.iconst 1, 1) := by decide +kernel
theorem d_Writer_writeBits_8 : decode b_Writer_writeBits 8 = .ok (.aaload, 1) := by decide +kernel
theorem d_Writer_writeBits_9 : decode b_Writer_writeBits 9 = .ok (.astore_n 3, 1) := by decide +kernel
theorem d_Writer_writeBits_10 : decode b_Writer_writeBits 10 = .ok (.iload_n 1, 1) := by decide +kernel
theorem d_Writer_writeBits_11 : decode b_Writer_writeBits 11 = .ok (.istore 4, 2) := by decide +kernel
theorem d_Writer_writeBits_13 : decode b_Writer_writeBits 13 = .ok (.iload 4, 2) := by decide +kernel
theorem d_Writer_writeBits_15 : decode b_Writer_writeBits 15 = .ok (.iload_n 2, 1) := by decide +kernel
theorem d_Writer_writeBits_16 : decode b_Writer_writeBits 16 = .ok (.if_icmp .ge 62, 3) := by decide +kernel
theorem d_Writer_writeBits_19 : decode b_Writer_writeBits 19 = .ok (.iconst 0, 1) := by decide +kernel
theorem d_Writer_writeBits_20 : decode b_Writer_writeBits 20 = .ok (.istore 5, 2) := by decide +kernel
theorem d_Writer_writeBits_22 : decode b_Writer_writeBits 22 = .ok (.iload 4, 2) := by decide +kernel
theorem d_Writer_writeBits_24 : decode b_Writer_writeBits 24 = .ok (.istore 6, 2) := by decide +kernel
theorem d_Writer_writeBits_26 : decode b_Writer_writeBits 26 = .ok (.iload 6, 2) := by decide +kernel
theorem d_Writer_writeBits_28 : decode b_Writer_writeBits 28 = .ok (.iload 4, 2) := by decide +kernel
theorem d_Writer_writeBits_30 : decode b_Writer_writeBits 30 = .ok (.bipush 8, 2) := by decide +kernel
theorem d_Writer_writeBits_32 : decode b_Writer_writeBits 32 = .ok (.iadd, 1) := by decide +kernel
theorem d_Writer_writeBits_33 : decode b_Writer_writeBits 33 = .ok (.if_icmp .ge 30, 3) := by decide +kernel
theorem d_Writer_writeBits_36 : decode b_Writer_writeBits 36 = .ok (.iload 5, 2) := by decide +kernel
theorem d_Writer_writeBits_38 : decode b_Writer_writeBits 38 = .ok (.iconst 1, 1) := by decide +kernel
theorem d_Writer_writeBits_39 : decode b_Writer_writeBits 39 = .ok (.ishl, 1) := by decide +kernel
theorem d_Writer_writeBits_40 : decode b_Writer_writeBits 40 = .ok (.iload 6, 2) := by decide +kernel
theorem d_Writer_writeBits_42 : decode b_Writer_writeBits 42 = .ok (.iload_n 2, 1) := by decide +kernel
theorem d_Writer_writeBits_43 : decode b_Writer_writeBits 43 = .ok (.if_icmp .ge 10, 3) := by decide +kernel
theorem d_Writer_writeBits_46 : decode b_Writer_writeBits 46 = .ok (.aload_n 3, 1) := by decide +kernel
theorem d_Writer_writeBits_47 : decode b_Writer_writeBits 47 = .ok (.iload 6, 2) := by decide +kernel
theorem d_Writer_writeBits_49 : decode b_Writer_writeBits 49 = .ok (.iaload, 1) := by decide +kernel
theorem d_Writer_writeBits_50 : decode b_Writer_writeBits 50 = .ok (.goto 4, 3) := by decide +kernel
theorem d_Writer_writeBits_53 : decode b_Writer_writeBits 53 = .ok (.iconst 0, 1) := by decide +kernel
theorem d_Writer_writeBits_54 : decode b_Writer_writeBits 54 = .ok (.ior, 1) := by decide +kernel
theorem d_Writer_writeBits_55 : decode b_Writer_writeBits 55 = .ok (.istore 5, 2) := by decide +kernel
theorem d_Writer_writeBits_57 : decode b_Writer_writeBits 57 = .ok (.iinc 6 1, 3) := by decide +kernel
theorem d_Writer_writeBits_60 : decode b_Writer_writeBits 60 = .ok (.goto (-34), 3) := by decide +kernel
theorem d_Writer_writeBits_63 : decode b_Writer_writeBits 63 = .ok (.aload_n 0, 1) := by decide +kernel
theorem d_Writer_writeBits_64 : decode b_Writer_writeBits 64 = .ok (.getfield 15, 3) := by decide +kernel
theorem d_Writer_writeBits_67 : decode b_Writer_writeBits 67 = .ok (.iload 5, 2) := by decide +kernel
theorem d_Writer_writeBits_69 : decode b_Writer_writeBits 69 = .ok (.invokevirtual 41, 3) := by decide +kernel
theorem d_Writer_writeBits_72 : decode b_Writer_writeBits 72 = .ok (.iinc 4 8, 3) := by decide +kernel
theorem d_Writer_writeBits_75 : decode b_Writer_writeBits 75 = .ok (.goto (-62), 3) := by decide +kernel
theorem d_Writer_writeBits_78 : decode b_Writer_writeBits 78 = .ok (.return_, 1) := by decide +kernel
abbrev b_Writer_writeHead : ByteArray := prog_6_method_3_code
def y_Writer_writeHead : MethodName := ⟨"MaskLayers$Writer", "writeHead", "()V"⟩
theorem d_Writer_writeHead_0 : decode b_Writer_writeHead 0 = .ok (.aload_n 0, 1) := by decide +kernel
theorem d_Writer_writeHead_1 : decode b_Writer_writeHead 1 = .ok (.getfield 15, 3) := by decide +kernel
theorem d_Writer_writeHead_4 : decode b_Writer_writeHead 4 = .ok (.bipush 77, 2) := by decide +kernel
theorem d_Writer_writeHead_6 : decode b_Writer_writeHead 6 = .ok (.invokevirtual 41, 3) := by decide +kernel
theorem d_Writer_writeHead_9 : decode b_Writer_writeHead 9 = .ok (.aload_n 0, 1) := by decide +kernel
theorem d_Writer_writeHead_10 : decode b_Writer_writeHead 10 = .ok (.getfield 15, 3) := by decide +kernel
theorem d_Writer_writeHead_13 : decode b_Writer_writeHead 13 = .ok (.bipush 76, 2) := by decide +kernel
theorem d_Writer_writeHead_15 : decode b_Writer_writeHead 15 = .ok (.invokevirtual 41, 3) := by decide +kernel
theorem d_Writer_writeHead_18 : decode b_Writer_writeHead 18 = .ok (.aload_n 0, 1) := by decide +kernel
theorem d_Writer_writeHead_19 : decode b_Writer_writeHead 19 = .ok (.getfield 15, 3) := by decide +kernel
theorem d_Writer_writeHead_22 : decode b_Writer_writeHead 22 = .ok (.aload_n 0, 1) := by decide +kernel
theorem d_Writer_writeHead_23 : decode b_Writer_writeHead 23 = .ok (.getfield 9, 3) := by decide +kernel
theorem d_Writer_writeHead_26 : decode b_Writer_writeHead 26 = .ok (.getfield 49, 3) := by decide +kernel
theorem d_Writer_writeHead_29 : decode b_Writer_writeHead 29 = .ok (.invokevirtual 41, 3) := by decide +kernel
theorem d_Writer_writeHead_32 : decode b_Writer_writeHead 32 = .ok (.aload_n 0, 1) := by decide +kernel
theorem d_Writer_writeHead_33 : decode b_Writer_writeHead 33 = .ok (.getfield 15, 3) := by decide +kernel
theorem d_Writer_writeHead_36 : decode b_Writer_writeHead 36 = .ok (.aload_n 0, 1) := by decide +kernel
theorem d_Writer_writeHead_37 : decode b_Writer_writeHead 37 = .ok (.getfield 9, 3) := by decide +kernel
theorem d_Writer_writeHead_40 : decode b_Writer_writeHead 40 = .ok (.getfield 52, 3) := by decide +kernel
theorem d_Writer_writeHead_43 : decode b_Writer_writeHead 43 = .ok (.invokevirtual 41, 3) := by decide +kernel
theorem d_Writer_writeHead_46 : decode b_Writer_writeHead 46 = .ok (.aload_n 0, 1) := by decide +kernel
theorem d_Writer_writeHead_47 : decode b_Writer_writeHead 47 = .ok (.getfield 15, 3) := by decide +kernel
theorem d_Writer_writeHead_50 : decode b_Writer_writeHead 50 = .ok (.aload_n 0, 1) := by decide +kernel
theorem d_Writer_writeHead_51 : decode b_Writer_writeHead 51 = .ok (.getfield 9, 3) := by decide +kernel
theorem d_Writer_writeHead_54 : decode b_Writer_writeHead 54 = .ok (.getfield 55, 3) := by decide +kernel
theorem d_Writer_writeHead_57 : decode b_Writer_writeHead 57 = .ok (.invokevirtual 41, 3) := by decide +kernel
theorem d_Writer_writeHead_60 : decode b_Writer_writeHead 60 = .ok (.aload_n 0, 1) := by decide +kernel
theorem d_Writer_writeHead_61 : decode b_Writer_writeHead 61 = .ok (.getfield 15, 3) := by decide +kernel
theorem d_Writer_writeHead_64 : decode b_Writer_writeHead 64 = .ok (.aload_n 0, 1) := by decide +kernel
theorem d_Writer_writeHead_65 : decode b_Writer_writeHead 65 = .ok (.getfield 9, 3) := by decide +kernel
theorem d_Writer_writeHead_68 : decode b_Writer_writeHead 68 = .ok (.getfield 58, 3) := by decide +kernel
theorem d_Writer_writeHead_71 : decode b_Writer_writeHead 71 = .ok (.iconst 2, 1) := by decide +kernel
theorem d_Writer_writeHead_72 : decode b_Writer_writeHead 72 = .ok (.iaload, 1) := by decide +kernel
theorem d_Writer_writeHead_73 : decode b_Writer_writeHead 73 = .ok (.invokevirtual 41, 3) := by decide +kernel
theorem d_Writer_writeHead_76 : decode b_Writer_writeHead 76 = .ok (.aload_n 0, 1) := by decide +kernel
theorem d_Writer_writeHead_77 : decode b_Writer_writeHead 77 = .ok (.getfield 15, 3) := by decide +kernel
theorem d_Writer_writeHead_80 : decode b_Writer_writeHead 80 = .ok (.aload_n 0, 1) := by decide +kernel
theorem d_Writer_writeHead_81 : decode b_Writer_writeHead 81 = .ok (.getfield 9, 3) := by decide +kernel
theorem d_Writer_writeHead_84 : decode b_Writer_writeHead 84 = .ok (.getfield 58, 3) := by decide +kernel
theorem d_Writer_writeHead_87 : decode b_Writer_writeHead 87 = .ok (.iconst 0, 1) := by decide +kernel
theorem d_Writer_writeHead_88 : decode b_Writer_writeHead 88 = .ok (.iaload, 1) := by decide +kernel
theorem d_Writer_writeHead_89 : decode b_Writer_writeHead 89 = .ok (.invokevirtual 41, 3) := by decide +kernel
theorem d_Writer_writeHead_92 : decode b_Writer_writeHead 92 = .ok (.return_, 1) := by decide +kernel
abbrev b_Writer_writeLayer : ByteArray := prog_6_method_4_code
def y_Writer_writeLayer : MethodName := ⟨"MaskLayers$Writer", "writeLayer", "(II)V"⟩
theorem d_Writer_writeLayer_0 : decode b_Writer_writeLayer 0 = .ok (.aload_n 0, 1) := by decide +kernel
theorem d_Writer_writeLayer_1 : decode b_Writer_writeLayer 1 = .ok (.getfield 9, 3) := by decide +kernel
theorem d_Writer_writeLayer_4 : decode b_Writer_writeLayer 4 = .ok (.iload_n 1, 1) := by decide +kernel
theorem d_Writer_writeLayer_5 : decode b_Writer_writeLayer 5 = .ok (.invokevirtual 62, 3) := by decide +kernel
theorem d_Writer_writeLayer_8 : decode b_Writer_writeLayer 8 = .ok (.istore_n 3, 1) := by decide +kernel
theorem d_Writer_writeLayer_9 : decode b_Writer_writeLayer 9 = .ok (.aload_n 0, 1) := by decide +kernel
theorem d_Writer_writeLayer_10 : decode b_Writer_writeLayer 10 = .ok (.getfield 9, 3) := by decide +kernel
theorem d_Writer_writeLayer_13 : decode b_Writer_writeLayer 13 = .ok (.iload_n 1, 1) := by decide +kernel
theorem d_Writer_writeLayer_14 : decode b_Writer_writeLayer 14 = .ok (.iload_n 2, 1) := by decide +kernel
theorem d_Writer_writeLayer_15 : decode b_Writer_writeLayer 15 = .ok (.invokevirtual 66, 3) := by decide +kernel
theorem d_Writer_writeLayer_18 : decode b_Writer_writeLayer 18 = .ok (.istore 4, 2) := by decide +kernel
theorem d_Writer_writeLayer_20 : decode b_Writer_writeLayer 20 = .ok (.iload_n 2, 1) := by decide +kernel
theorem d_Writer_writeLayer_21 : decode b_Writer_writeLayer 21 = .ok (.iload 4, 2) := by decide +kernel
theorem d_Writer_writeLayer_23 : decode b_Writer_writeLayer 23 = .ok (.iload_n 3, 1) := by decide +kernel
theorem d_Writer_writeLayer_24 : decode b_Writer_writeLayer 24 = .ok (.isub, 1) := by decide +kernel
theorem d_Writer_writeLayer_25 : decode b_Writer_writeLayer 25 = .ok (.invokestatic 70, 3) := by decide +kernel
theorem d_Writer_writeLayer_28 : decode b_Writer_writeLayer 28 = .ok (.istore 5, 2) := by decide +kernel
theorem d_Writer_writeLayer_30 : decode b_Writer_writeLayer 30 = .ok (.aload_n 0, 1) := by decide +kernel
theorem d_Writer_writeLayer_31 : decode b_Writer_writeLayer 31 = .ok (.getfield 9, 3) := by decide +kernel
theorem d_Writer_writeLayer_34 : decode b_Writer_writeLayer 34 = .ok (.getfield 73, 3) := by decide +kernel
theorem d_Writer_writeLayer_37 : decode b_Writer_writeLayer 37 = .ok (.iload_n 2, 1) := by decide +kernel
theorem d_Writer_writeLayer_38 : decode b_Writer_writeLayer 38 = .ok (.aaload, 1) := by decide +kernel
theorem d_Writer_writeLayer_39 : decode b_Writer_writeLayer 39 = .ok (.iload_n 3, 1) := by decide +kernel
theorem d_Writer_writeLayer_40 : decode b_Writer_writeLayer 40 = .ok (.iload 4, 2) := by decide +kernel
theorem d_Writer_writeLayer_42 : decode b_Writer_writeLayer 42 = .ok (.invokestatic 77, 3) := by decide +kernel
theorem d_Writer_writeLayer_45 : decode b_Writer_writeLayer 45 = .ok (.iload_n 2, 1) := by decide +kernel
theorem d_Writer_writeLayer_46 : decode b_Writer_writeLayer 46 = .ok (.iconst 1, 1) := by decide +kernel
theorem d_Writer_writeLayer_47 : decode b_Writer_writeLayer 47 = .ok (.if_icmp .ne 7, 3) := by decide +kernel
theorem d_Writer_writeLayer_50 : decode b_Writer_writeLayer 50 = .ok (.iconst 2, 1) := by decide +kernel
theorem d_Writer_writeLayer_51 : decode b_Writer_writeLayer 51 = .ok (.goto 4, 3) := by decide +kernel
theorem d_Writer_writeLayer_54 : decode b_Writer_writeLayer 54 = .ok (.iconst 4, 1) := by decide +kernel
theorem d_Writer_writeLayer_55 : decode b_Writer_writeLayer 55 = .ok (.imul, 1) := by decide +kernel
theorem d_Writer_writeLayer_56 : decode b_Writer_writeLayer 56 = .ok (.istore 6, 2) := by decide +kernel
theorem d_Writer_writeLayer_58 : decode b_Writer_writeLayer 58 = .ok (.aload_n 0, 1) := by decide +kernel
theorem d_Writer_writeLayer_59 : decode b_Writer_writeLayer 59 = .ok (.getfield 15, 3) := by decide +kernel
theorem d_Writer_writeLayer_62 : decode b_Writer_writeLayer 62 = .ok (.sipush 160, 3) := by decide +kernel
theorem d_Writer_writeLayer_65 : decode b_Writer_writeLayer 65 = .ok (.iload_n 2, 1) := by decide +kernel
theorem d_Writer_writeLayer_66 : decode b_Writer_writeLayer 66 = .ok (.iadd, 1) := by decide +kernel
theorem d_Writer_writeLayer_67 : decode b_Writer_writeLayer 67 = .ok (.invokevirtual 41, 3) := by decide +kernel
theorem d_Writer_writeLayer_70 : decode b_Writer_writeLayer 70 = .ok (.aload_n 0, 1) := by decide +kernel
theorem d_Writer_writeLayer_71 : decode b_Writer_writeLayer 71 = .ok (.getfield 15, 3) := by decide +kernel
theorem d_Writer_writeLayer_74 : decode b_Writer_writeLayer 74 = .ok (.iload 6, 2) := by decide +kernel
theorem d_Writer_writeLayer_76 : decode b_Writer_writeLayer 76 = .ok (.iload 5, 2) := by decide +kernel
theorem d_Writer_writeLayer_78 : decode b_Writer_writeLayer 78 = .ok (.if_icmp .ge 7, 3) := by decide +kernel
theorem d_Writer_writeLayer_81 : decode b_Writer_writeLayer 81 = .ok (.iconst 1, 1) := by decide +kernel
theorem d_Writer_writeLayer_82 : decode b_Writer_writeLayer 82 = .ok (.goto 4, 3) := by decide +kernel
theorem d_Writer_writeLayer_85 : decode b_Writer_writeLayer 85 = .ok (.iconst 0, 1) := by decide +kernel
theorem d_Writer_writeLayer_86 : decode b_Writer_writeLayer 86 = .ok (.invokevirtual 41, 3) := by decide +kernel
theorem d_Writer_writeLayer_89 : decode b_Writer_writeLayer 89 = .ok (.aload_n 0, 1) := by decide +kernel
theorem d_Writer_writeLayer_90 : decode b_Writer_writeLayer 90 = .ok (.getfield 15, 3) := by decide +kernel
theorem d_Writer_writeLayer_93 : decode b_Writer_writeLayer 93 = .ok (.iload 6, 2) := by decide +kernel
theorem d_Writer_writeLayer_95 : decode b_Writer_writeLayer 95 = .ok (.iload 5, 2) := by decide +kernel
theorem d_Writer_writeLayer_97 : decode b_Writer_writeLayer 97 = .ok (.invokestatic 81, 3) := by decide +kernel
theorem d_Writer_writeLayer_100 : decode b_Writer_writeLayer 100 = .ok (.sipush 255, 3) := by decide +kernel
theorem d_Writer_writeLayer_103 : decode b_Writer_writeLayer 103 = .ok (.iand, 1) := by decide +kernel
theorem d_Writer_writeLayer_104 : decode b_Writer_writeLayer 104 = .ok (.invokevirtual 41, 3) := by decide +kernel
theorem d_Writer_writeLayer_107 : decode b_Writer_writeLayer 107 = .ok (.aload_n 0, 1) := by decide +kernel
theorem d_Writer_writeLayer_108 : decode b_Writer_writeLayer 108 = .ok (.getfield 15, 3) := by decide +kernel
theorem d_Writer_writeLayer_111 : decode b_Writer_writeLayer 111 = .ok (.iload 6, 2) := by decide +kernel
theorem d_Writer_writeLayer_113 : decode b_Writer_writeLayer 113 = .ok (.iload 5, 2) := by decide +kernel
theorem d_Writer_writeLayer_115 : decode b_Writer_writeLayer 115 = .ok (.invokestatic 81, 3) := by decide +kernel
theorem d_Writer_writeLayer_118 : decode b_Writer_writeLayer 118 = .ok (.bipush 8, 2) := by decide +kernel
theorem d_Writer_writeLayer_120 : decode b_Writer_writeLayer 120 = .ok (.ishr, 1) := by decide +kernel
theorem d_Writer_writeLayer_121 : decode b_Writer_writeLayer 121 = .ok (.invokevirtual 41, 3) := by decide +kernel
theorem d_Writer_writeLayer_124 : decode b_Writer_writeLayer 124 = .ok (.iload 6, 2) := by decide +kernel
theorem d_Writer_writeLayer_126 : decode b_Writer_writeLayer 126 = .ok (.iload 5, 2) := by decide +kernel
theorem d_Writer_writeLayer_128 : decode b_Writer_writeLayer 128 = .ok (.if_icmp .ge 14, 3) := by decide +kernel
theorem d_Writer_writeLayer_131 : decode b_Writer_writeLayer 131 = .ok (.aload_n 0, 1) := by decide +kernel
theorem d_Writer_writeLayer_132 : decode b_Writer_writeLayer 132 = .ok (.iload_n 2, 1) := by decide +kernel
theorem d_Writer_writeLayer_133 : decode b_Writer_writeLayer 133 = .ok (.iload_n 3, 1) := by decide +kernel
theorem d_Writer_writeLayer_134 : decode b_Writer_writeLayer 134 = .ok (.iload 4, 2) := by decide +kernel
theorem d_Writer_writeLayer_136 : decode b_Writer_writeLayer 136 = .ok (.invokevirtual 86, 3) := by decide +kernel
theorem d_Writer_writeLayer_139 : decode b_Writer_writeLayer 139 = .ok (.goto 26, 3) := by decide +kernel
theorem d_Writer_writeLayer_142 : decode b_Writer_writeLayer 142 = .ok (.iload_n 2, 1) := by decide +kernel
theorem d_Writer_writeLayer_143 : decode b_Writer_writeLayer 143 = .ok (.iconst 1, 1) := by decide +kernel
theorem d_Writer_writeLayer_144 : decode b_Writer_writeLayer 144 = .ok (.if_icmp .ne 13, 3) := by decide +kernel
theorem d_Writer_writeLayer_147 : decode b_Writer_writeLayer 147 = .ok (.aload_n 0, 1) := by decide +kernel
theorem d_Writer_writeLayer_148 : decode b_Writer_writeLayer 148 = .ok (.iload_n 3, 1) := by decide +kernel
theorem d_Writer_writeLayer_149 : decode b_Writer_writeLayer 149 = .ok (.iload 4, 2) := by decide +kernel
theorem d_Writer_writeLayer_151 : decode b_Writer_writeLayer 151 = .ok (.invokevirtual 90, 3) := by decide +kernel
theorem d_Writer_writeLayer_154 : decode b_Writer_writeLayer 154 = .ok (.goto 11, 3) := by decide +kernel
theorem d_Writer_writeLayer_157 : decode b_Writer_writeLayer 157 = .ok (.aload_n 0, 1) := by decide +kernel
theorem d_Writer_writeLayer_158 : decode b_Writer_writeLayer 158 = .ok (.iload_n 2, 1) := by decide +kernel
theorem d_Writer_writeLayer_159 : decode b_Writer_writeLayer 159 = .ok (.iload_n 3, 1) := by decide +kernel
theorem d_Writer_writeLayer_160 : decode b_Writer_writeLayer 160 = .ok (.iload 4, 2) := by decide +kernel
theorem d_Writer_writeLayer_162 : decode b_Writer_writeLayer 162 = .ok (.invokevirtual 93, 3) := by decide +kernel
theorem d_Writer_writeLayer_165 : decode b_Writer_writeLayer 165 = .ok (.return_, 1) := by decide +kernel
abbrev b_Writer_writeAll : ByteArray := prog_6_method_2_code
def y_Writer_writeAll : MethodName := ⟨"MaskLayers$Writer", "writeAll", "()I"⟩
theorem d_Writer_writeAll_0 : decode b_Writer_writeAll 0 = .ok (.aload_n 0, 1) := by decide +kernel
theorem d_Writer_writeAll_1 : decode b_Writer_writeAll 1 = .ok (.getfield 15, 3) := by decide +kernel
theorem d_Writer_writeAll_4 : decode b_Writer_writeAll 4 = .ok (.invokevirtual 19, 3) := by decide +kernel
theorem d_Writer_writeAll_7 : decode b_Writer_writeAll 7 = .ok (.aload_n 0, 1) := by decide +kernel
theorem d_Writer_writeAll_8 : decode b_Writer_writeAll 8 = .ok (.invokevirtual 24, 3) := by decide +kernel
theorem d_Writer_writeAll_11 : decode b_Writer_writeAll 11 = .ok (.iconst 0, 1) := by decide +kernel
theorem d_Writer_writeAll_12 : decode b_Writer_writeAll 12 = .ok (.istore_n 1, 1) := by decide +kernel
theorem d_Writer_writeAll_13 : decode b_Writer_writeAll 13 = .ok (.iload_n 1, 1) := by decide +kernel
theorem d_Writer_writeAll_14 : decode b_Writer_writeAll 14 = .ok (.aload_n 0, 1) := by decide +kernel
theorem d_Writer_writeAll_15 : decode b_Writer_writeAll 15 = .ok (.getfield 9, 3) := by decide +kernel
theorem d_Writer_writeAll_18 : decode b_Writer_writeAll 18 = .ok (.invokevirtual 27, 3) := by decide +kernel
theorem d_Writer_writeAll_21 : decode b_Writer_writeAll 21 = .ok (.if_icmp .ge 50, 3) := by decide +kernel
