theorem d_Writer_countRuns_20 : decode b_Writer_countRuns 20 = .ok (.iload 6, 2) := by decide +kernel
theorem d_Writer_countRuns_22 : decode b_Writer_countRuns 22 = .ok (.iload_n 3, 1) := by decide +kernel
theorem d_Writer_countRuns_23 : decode b_Writer_countRuns 23 = .ok (.iload 5, 2) := by decide +kernel
theorem d_Writer_countRuns_25 : decode b_Writer_countRuns 25 = .ok (.invokevirtual 94, 3) := by decide +kernel
theorem d_Writer_countRuns_28 : decode b_Writer_countRuns 28 = .ok (.ifCond .eq 9, 3) := by decide +kernel
theorem d_Writer_countRuns_31 : decode b_Writer_countRuns 31 = .ok (.iinc 4 1, 3) := by decide +kernel
theorem d_Writer_countRuns_34 : decode b_Writer_countRuns 34 = .ok (.iconst 0, 1) := by decide +kernel
theorem d_Writer_countRuns_35 : decode b_Writer_countRuns 35 = .ok (.istore 5, 2) := by decide +kernel
theorem d_Writer_countRuns_37 : decode b_Writer_countRuns 37 = .ok (.iinc 6 1, 3) := by decide +kernel
theorem d_Writer_countRuns_40 : decode b_Writer_countRuns 40 = .ok (.goto (-31), 3) := by decide +kernel
theorem d_Writer_countRuns_43 : decode b_Writer_countRuns 43 = .ok (.iload 4, 2) := by decide +kernel
theorem d_Writer_countRuns_45 : decode b_Writer_countRuns 45 = .ok (.ireturn, 1) := by decide +kernel
abbrev b_Reader_mayEnd : ByteArray := prog_5_method_7_code
def y_Reader_mayEnd : MethodName := ⟨"MaskLayers$Reader", "mayEnd", "(I)Z"⟩
theorem d_Reader_mayEnd_0 : decode b_Reader_mayEnd 0 = .ok (.aload_n 0, 1) := by decide +kernel
theorem d_Reader_mayEnd_1 : decode b_Reader_mayEnd 1 = .ok (.getfield 15, 3) := by decide +kernel
theorem d_Reader_mayEnd_4 : decode b_Reader_mayEnd 4 = .ok (.iload_n 1, 1) := by decide +kernel
theorem d_Reader_mayEnd_5 : decode b_Reader_mayEnd 5 = .ok (.iconst 2, 1) := by decide +kernel
theorem d_Reader_mayEnd_6 : decode b_Reader_mayEnd 6 = .ok (.invokevirtual 83, 3) := by decide +kernel
theorem d_Reader_mayEnd_9 : decode b_Reader_mayEnd 9 = .ok (.ifCond .ne 27, 3) := by decide +kernel
theorem d_Reader_mayEnd_12 : decode b_Reader_mayEnd 12 = .ok (.aload_n 0, 1) := by decide +kernel
theorem d_Reader_mayEnd_13 : decode b_Reader_mayEnd 13 = .ok (.getfield 15, 3) := by decide +kernel
theorem d_Reader_mayEnd_16 : decode b_Reader_mayEnd 16 = .ok (.iload_n 1, 1) := by decide +kernel
theorem d_Reader_mayEnd_17 : decode b_Reader_mayEnd 17 = .ok (.iconst 0, 1) := by decide +kernel
theorem d_Reader_mayEnd_18 : decode b_Reader_mayEnd 18 = .ok (.invokevirtual 83, 3) := by decide +kernel
theorem d_Reader_mayEnd_21 : decode b_Reader_mayEnd 21 = .ok (.ifCond .eq 19, 3) := by decide +kernel
theorem d_Reader_mayEnd_24 : decode b_Reader_mayEnd 24 = .ok (.aload_n 0, 1) := by decide +kernel
theorem d_Reader_mayEnd_25 : decode b_Reader_mayEnd 25 = .ok (.getfield 15, 3) := by decide +kernel
theorem d_Reader_mayEnd_28 : decode b_Reader_mayEnd 28 = .ok (.iload_n 1, 1) := by decide +kernel
theorem d_Reader_mayEnd_29 : decode b_Reader_mayEnd 29 = .ok (.iconst 1, 1) := by decide +kernel
theorem d_Reader_mayEnd_30 : decode b_Reader_mayEnd 30 = .ok (.invokevirtual 83, 3) := by decide +kernel
theorem d_Reader_mayEnd_33 : decode b_Reader_mayEnd 33 = .ok (.ifCond .ne 7, 3) := by decide +kernel
theorem d_Reader_mayEnd_36 : decode b_Reader_mayEnd 36 = .ok (.iconst 1, 1) := by decide +kernel
theorem d_Reader_mayEnd_37 : decode b_Reader_mayEnd 37 = .ok (.goto 4, 3) := by decide +kernel
theorem d_Reader_mayEnd_40 : decode b_Reader_mayEnd 40 = .ok (.iconst 0, 1) := by decide +kernel
theorem d_Reader_mayEnd_41 : decode b_Reader_mayEnd 41 = .ok (.ireturn, 1) := by decide +kernel
abbrev b_Reader_mayFollow : ByteArray := prog_5_method_8_code
def y_Reader_mayFollow : MethodName := ⟨"MaskLayers$Reader", "mayFollow", "(II)Z"⟩
theorem d_Reader_mayFollow_0 : decode b_Reader_mayFollow 0 = .ok (.iload_n 2, 1) := by decide +kernel
theorem d_Reader_mayFollow_1 : decode b_Reader_mayFollow 1 = .ok (.iconst 2, 1) := by decide +kernel
theorem d_Reader_mayFollow_2 : decode b_Reader_mayFollow 2 = .ok (.if_icmp .ne 13, 3) := by decide +kernel
theorem d_Reader_mayFollow_5 : decode b_Reader_mayFollow 5 = .ok (.aload_n 0, 1) := by decide +kernel
theorem d_Reader_mayFollow_6 : decode b_Reader_mayFollow 6 = .ok (.getfield 15, 3) := by decide +kernel
theorem d_Reader_mayFollow_9 : decode b_Reader_mayFollow 9 = .ok (.iload_n 1, 1) := by decide +kernel
theorem d_Reader_mayFollow_10 : decode b_Reader_mayFollow 10 = .ok (.iconst 1, 1) := by decide +kernel
theorem d_Reader_mayFollow_11 : decode b_Reader_mayFollow 11 = .ok (.invokevirtual 83, 3) := by decide +kernel
theorem d_Reader_mayFollow_14 : decode b_Reader_mayFollow 14 = .ok (.ireturn, 1) := by decide +kernel
theorem d_Reader_mayFollow_15 : decode b_Reader_mayFollow 15 = .ok (.iload_n 2, 1) := by decide +kernel
theorem d_Reader_mayFollow_16 : decode b_Reader_mayFollow 16 = .ok (.iconst 3, 1) := by decide +kernel
theorem d_Reader_mayFollow_17 : decode b_Reader_mayFollow 17 = .ok (.if_icmp .ne 33, 3) := by decide +kernel
theorem d_Reader_mayFollow_20 : decode b_Reader_mayFollow 20 = .ok (.aload_n 0, 1) := by decide +kernel
theorem d_Reader_mayFollow_21 : decode b_Reader_mayFollow 21 = .ok (.getfield 15, 3) := by decide +kernel
theorem d_Reader_mayFollow_24 : decode b_Reader_mayFollow 24 = .ok (.iload_n 1, 1) := by decide +kernel
theorem d_Reader_mayFollow_25 : decode b_Reader_mayFollow 25 = .ok (.iconst 0, 1) := by decide +kernel
theorem d_Reader_mayFollow_26 : decode b_Reader_mayFollow 26 = .ok (.invokevirtual 83, 3) := by decide +kernel
theorem d_Reader_mayFollow_29 : decode b_Reader_mayFollow 29 = .ok (.ifCond .ne 15, 3) := by decide +kernel
theorem d_Reader_mayFollow_32 : decode b_Reader_mayFollow 32 = .ok (.aload_n 0, 1) := by decide +kernel
theorem d_Reader_mayFollow_33 : decode b_Reader_mayFollow 33 = .ok (.getfield 15, 3) := by decide +kernel
theorem d_Reader_mayFollow_36 : decode b_Reader_mayFollow 36 = .ok (.iload_n 1, 1) := by decide +kernel
theorem d_Reader_mayFollow_37 : decode b_Reader_mayFollow 37 = .ok (.iconst 2, 1) := by decide +kernel
theorem d_Reader_mayFollow_38 : decode b_Reader_mayFollow 38 = .ok (.invokevirtual 83, 3) := by decide +kernel
theorem d_Reader_mayFollow_41 : decode b_Reader_mayFollow 41 = .ok (.ifCond .eq 7, 3) := by decide +kernel
theorem d_Reader_mayFollow_44 : decode b_Reader_mayFollow 44 = .ok (.iconst 1, 1) := by decide +kernel
theorem d_Reader_mayFollow_45 : decode b_Reader_mayFollow 45 = .ok (.goto 4, 3) := by decide +kernel
theorem d_Reader_mayFollow_48 : decode b_Reader_mayFollow 48 = .ok (.iconst 0, 1) := by decide +kernel
theorem d_Reader_mayFollow_49 : decode b_Reader_mayFollow 49 = .ok (.ireturn, 1) := by decide +kernel
theorem d_Reader_mayFollow_50 : decode b_Reader_mayFollow 50 = .ok (.iload_n 2, 1) := by decide +kernel
theorem d_Reader_mayFollow_51 : decode b_Reader_mayFollow 51 = .ok (.ifCond .eq 8, 3) := by decide +kernel
theorem d_Reader_mayFollow_54 : decode b_Reader_mayFollow 54 = .ok (.iload_n 2, 1) := by decide +kernel
theorem d_Reader_mayFollow_55 : decode b_Reader_mayFollow 55 = .ok (.iconst 1, 1) := by decide +kernel
theorem d_Reader_mayFollow_56 : decode b_Reader_mayFollow 56 = .ok (.if_icmp .ne 7, 3) := by decide +kernel
theorem d_Reader_mayFollow_59 : decode b_Reader_mayFollow 59 = .ok (.iconst 1, 1) := by decide +kernel
theorem d_Reader_mayFollow_60 : decode b_Reader_mayFollow 60 = .ok (.goto 4, 3) := by decide +kernel
theorem d_Reader_mayFollow_63 : decode b_Reader_mayFollow 63 = .ok (.iconst 0, 1) := by decide +kernel
theorem d_Reader_mayFollow_64 : decode b_Reader_mayFollow 64 = .ok (.ireturn, 1) := by decide +kernel
abbrev b_Reader_refuse : ByteArray := prog_5_method_3_code
def y_Reader_refuse : MethodName := ⟨"MaskLayers$Reader", "refuse", "(I)Z"⟩
theorem d_Reader_refuse_0 : decode b_Reader_refuse 0 = .ok (.aload_n 0, 1) := by decide +kernel
theorem d_Reader_refuse_1 : decode b_Reader_refuse 1 = .ok (.iload_n 1, 1) := by decide +kernel
theorem d_Reader_refuse_2 : decode b_Reader_refuse 2 = .ok (.putfield 56, 3) := by decide +kernel
theorem d_Reader_refuse_5 : decode b_Reader_refuse 5 = .ok (.iconst 0, 1) := by decide +kernel
theorem d_Reader_refuse_6 : decode b_Reader_refuse 6 = .ok (.ireturn, 1) := by decide +kernel
abbrev b_Reader_take : ByteArray := prog_5_method_4_code
def y_Reader_take : MethodName := ⟨"MaskLayers$Reader", "take", "(II)I"⟩
theorem d_Reader_take_0 : decode b_Reader_take 0 = .ok (.aload_n 0, 1) := by decide +kernel
theorem d_Reader_take_1 : decode b_Reader_take 1 = .ok (.getfield 26, 3) := by decide +kernel
theorem d_Reader_take_4 : decode b_Reader_take 4 = .ok (.aload_n 0, 1) := by decide +kernel
theorem d_Reader_take_5 : decode b_Reader_take 5 = .ok (.getfield 9, 3) := by decide +kernel
theorem d_Reader_take_8 : decode b_Reader_take 8 = .ok (.getfield 47, 3) := by decide +kernel
theorem d_Reader_take_11 : decode b_Reader_take 11 = .ok (.if_icmp .ge 18, 3) := by decide +kernel
theorem d_Reader_take_14 : decode b_Reader_take 14 = .ok (.aload_n 0, 1) := by decide +kernel
theorem d_Reader_take_15 : decode b_Reader_take 15 = .ok (.getfield 9, 3) := by decide +kernel
theorem d_Reader_take_18 : decode b_Reader_take 18 = .ok (.getfield 59, 3) := by decide +kernel
theorem d_Reader_take_21 : decode b_Reader_take 21 = .ok (.aload_n 0, 1) := by decide +kernel
theorem d_Reader_take_22 : decode b_Reader_take 22 = .ok (.getfield 26, 3) := by decide +kernel
theorem d_Reader_take_25 : decode b_Reader_take 25 = .ok (.iaload, 1) := by decide +kernel
theorem d_Reader_take_26 : decode b_Reader_take 26 = .ok (.goto 4, 3) := by decide +kernel
theorem d_Reader_take_29 : decode b_Reader_take 29 = .ok (.iconst (-1), 1) := by decide +kernel
theorem d_Reader_take_30 : decode b_Reader_take 30 = .ok (.istore_n 3, 1) := by decide +kernel
theorem d_Reader_take_31 : decode b_Reader_take 31 = .ok (.iload_n 3, 1) := by decide +kernel
theorem d_Reader_take_32 : decode b_Reader_take 32 = .ok (.iload_n 1, 1) := by decide +kernel
theorem d_Reader_take_33 : decode b_Reader_take 33 = .ok (.if_icmp .lt 8, 3) := by decide +kernel
theorem d_Reader_take_36 : decode b_Reader_take 36 = .ok (.iload_n 3, 1) := by decide +kernel
theorem d_Reader_take_37 : decode b_Reader_take 37 = .ok (.iload_n 2, 1) := by decide +kernel
theorem d_Reader_take_38 : decode b_Reader_take 38 = .ok (.if_icmp .le 13, 3) := by decide +kernel
theorem d_Reader_take_41 : decode b_Reader_take 41 = .ok (.aload_n 0, 1) := by decide +kernel
theorem d_Reader_take_42 : decode b_Reader_take 42 = .ok (.aload_n 0, 1) := by decide +kernel
theorem d_Reader_take_43 : decode b_Reader_take 43 = .ok (.getfield 26, 3) := by decide +kernel
theorem d_Reader_take_46 : decode b_Reader_take 46 = .ok (.putfield 56, 3) := by decide +kernel
theorem d_Reader_take_49 : decode b_Reader_take 49 = .ok (.iconst (-1), 1) := by decide +kernel
theorem d_Reader_take_50 : decode b_Reader_take 50 = .ok (.ireturn, 1) := by decide +kernel
theorem d_Reader_take_51 : decode b_Reader_take 51 = .ok (.aload_n 0, 1) := by decide +kernel
theorem d_Reader_take_52 : decode b_Reader_take 52 = .ok (.dup, 1) := by decide +kernel
theorem d_Reader_take_53 : decode b_Reader_take 53 = .ok (.getfield 26, 3) := by decide +kernel
theorem d_Reader_take_56 : decode b_Reader_take 56 = .ok (.iconst 1, 1) := by decide +kernel
theorem d_Reader_take_57 : decode b_Reader_take 57 = .ok (.iadd, 1) := by decide +kernel
theorem d_Reader_take_58 : decode b_Reader_take 58 = .ok (.putfield 26, 3) := by decide +kernel
theorem d_Reader_take_61 : decode b_Reader_take 61 = .ok (.iload_n 3, 1) := by decide +kernel
theorem d_Reader_take_62 : decode b_Reader_take 62 = .ok (.ireturn, 1) := by decide +kernel
abbrev b_Reader_takeValue : ByteArray := prog_5_method_13_code
def y_Reader_takeValue : MethodName := ⟨"MaskLayers$Reader", "takeValue", "(I)I"⟩
theorem d_Reader_takeValue_0 : decode b_Reader_takeValue 0 = .ok (.iload_n 1, 1) := by decide +kernel
theorem d_Reader_takeValue_1 : decode b_Reader_takeValue 1 = .ok (.iconst 1, 1) := by decide +kernel
theorem d_Reader_takeValue_2 : decode b_Reader_takeValue 2 = .ok (.if_icmp .ne 10, 3) := by decide +kernel
theorem d_Reader_takeValue_5 : decode b_Reader_takeValue 5 = .ok (.aload_n 0, 1) := by decide +kernel
theorem d_Reader_takeValue_6 : decode b_Reader_takeValue 6 = .ok (.iconst 0, 1) := by decide +kernel
theorem d_Reader_takeValue_7 : decode b_Reader_takeValue 7 = .ok (.iconst 1, 1) := by decide +kernel
theorem d_Reader_takeValue_8 : decode b_Reader_takeValue 8 = .ok (.invokevirtual 65, 3) := by decide +kernel
theorem d_Reader_takeValue_11 : decode b_Reader_takeValue 11 = .ok (.ireturn, 1) := by decide +kernel
theorem d_Reader_takeValue_12 : decode b_Reader_takeValue 12 = .ok (.aload_n 0, 1) := by decide +kernel
theorem d_Reader_takeValue_13 : decode b_Reader_takeValue 13 = .ok (.iconst 0, 1) := by decide +kernel
theorem d_Reader_takeValue_14 : decode b_Reader_takeValue 14 = .ok (.sipush 255, 3) := by decide +kernel
theorem d_Reader_takeValue_17 : decode b_Reader_takeValue 17 = .ok (.invokevirtual 65, 3) := by decide +kernel
theorem d_Reader_takeValue_20 : decode b_Reader_takeValue 20 = .ok (.istore_n 2, 1) := by decide +kernel
theorem d_Reader_takeValue_21 : decode b_Reader_takeValue 21 = .ok (.iload_n 2, 1) := by decide +kernel
theorem d_Reader_takeValue_22 : decode b_Reader_takeValue 22 = .ok (.iconst (-1), 1) := by decide +kernel
theorem d_Reader_takeValue_23 : decode b_Reader_takeValue 23 = .ok (.if_icmp .ne 7, 3) := by decide +kernel
theorem d_Reader_takeValue_26 : decode b_Reader_takeValue 26 = .ok (.iconst (-1), 1) := by decide +kernel
theorem d_Reader_takeValue_27 : decode b_Reader_takeValue 27 = .ok (.goto 11, 3) := by decide +kernel
theorem d_Reader_takeValue_30 : decode b_Reader_takeValue 30 = .ok (.aload_n 0, 1) := by decide +kernel
theorem d_Reader_takeValue_31 : decode b_Reader_takeValue 31 = .ok (.iconst 0, 1) := by decide +kernel
theorem d_Reader_takeValue_32 : decode b_Reader_takeValue 32 = .ok (.sipush 255, 3) := by decide +kernel
theorem d_Reader_takeValue_35 : decode b_Reader_takeValue 35 = .ok (.invokevirtual 65, 3) := by decide +kernel
theorem d_Reader_takeValue_38 : decode b_Reader_takeValue 38 = .ok (.istore_n 3, 1) := by decide +kernel
theorem d_Reader_takeValue_39 : decode b_Reader_takeValue 39 = .ok (.iload_n 3, 1) := by decide +kernel
theorem d_Reader_takeValue_40 : decode b_Reader_takeValue 40 = .ok (.iconst (-1), 1) := by decide +kernel
theorem d_Reader_takeValue_41 : decode b_Reader_takeValue 41 = .ok (.if_icmp .ne 7, 3) := by decide +kernel
theorem d_Reader_takeValue_44 : decode b_Reader_takeValue 44 = .ok (.iconst (-1), 1) := by decide +kernel
theorem d_Reader_takeValue_45 : decode b_Reader_takeValue 45 = .ok (.goto 11, 3) := by decide +kernel
theorem d_Reader_takeValue_48 : decode b_Reader_takeValue 48 = .ok (.aload_n 0, 1) := by decide +kernel
theorem d_Reader_takeValue_49 : decode b_Reader_takeValue 49 = .ok (.iconst 0, 1) := by decide +kernel
theorem d_Reader_takeValue_50 : decode b_Reader_takeValue 50 = .ok (.sipush 255, 3) := by decide +kernel
theorem d_Reader_takeValue_53 : decode b_Reader_takeValue 53 = .ok (.invokevirtual 65, 3) := by decide +kernel
theorem d_Reader_takeValue_56 : decode b_Reader_takeValue 56 = .ok (.istore 4, 2) := by decide +kernel
theorem d_Reader_takeValue_58 : decode b_Reader_takeValue 58 = .ok (.iload 4, 2) := by decide +kernel
theorem d_Reader_takeValue_60 : decode b_Reader_takeValue 60 = .ok (.iconst (-1), 1) := by decide +kernel
theorem d_Reader_takeValue_61 : decode b_Reader_takeValue 61 = .ok (.if_icmp .ne 7, 3) := by decide +kernel
theorem d_Reader_takeValue_64 : decode b_Reader_takeValue 64 = .ok (.iconst (-1), 1) := by decide +kernel
theorem d_Reader_takeValue_65 : decode b_Reader_takeValue 65 = .ok (.goto 10, 3) := by decide +kernel
theorem d_Reader_takeValue_68 : decode b_Reader_takeValue 68 = .ok (.iload_n 2, 1) := by decide +kernel
theorem d_Reader_takeValue_69 : decode b_Reader_takeValue 69 = .ok (.iload_n 3, 1) := by decide +kernel
theorem d_Reader_takeValue_70 : decode b_Reader_takeValue 70 = .ok (.iload 4, 2) := by decide +kernel
theorem d_Reader_takeValue_72 : decode b_Reader_takeValue 72 = .ok (.invokestatic 122, 3) := by decide +kernel
theorem d_Reader_takeValue_75 : decode b_Reader_takeValue 75 = .ok (.ireturn, 1) := by decide +kernel
abbrev b_Reader_readColours : ByteArray := prog_5_method_12_code
def y_Reader_readColours : MethodName := ⟨"MaskLayers$Reader", "readColours", "(III)Z"⟩
theorem d_Reader_readColours_0 : decode b_Reader_readColours 0 = .ok (.iload_n 2, 1) := by decide +kernel
theorem d_Reader_readColours_1 : decode b_Reader_readColours 1 = .ok (.istore 4, 2) := by decide +kernel
theorem d_Reader_readColours_3 : decode b_Reader_readColours 3 = .ok (.iload 4, 2) := by decide +kernel
theorem d_Reader_readColours_5 : decode b_Reader_readColours 5 = .ok (.iload_n 3, 1) := by decide +kernel
theorem d_Reader_readColours_6 : decode b_Reader_readColours 6 = .ok (.if_icmp .ge 36, 3) := by decide +kernel
theorem d_Reader_readColours_9 : decode b_Reader_readColours 9 = .ok (.aload_n 0, 1) := by decide +kernel
theorem d_Reader_readColours_10 : decode b_Reader_readColours 10 = .ok (.iload_n 1, 1) := by decide +kernel
theorem d_Reader_readColours_11 : decode b_Reader_readColours 11 = .ok (.invokevirtual 115, 3) := by decide +kernel
theorem d_Reader_readColours_14 : decode b_Reader_readColours 14 = .ok (.istore 5, 2) := by decide +kernel
theorem d_Reader_readColours_16 : decode b_Reader_readColours 16 = .ok (.iload 5, 2) := by decide +kernel
theorem d_Reader_readColours_18 : decode b_Reader_readColours 18 = .ok (.iconst (-1), 1) := by decide +kernel
theorem d_Reader_readColours_19 : decode b_Reader_readColours 19 = .ok (.if_icmp .ne 5, 3) := by decide +kernel
theorem d_Reader_readColours_22 : decode b_Reader_readColours 22 = .ok (.iconst 0, 1) := by decide +kernel
theorem d_Reader_readColours_23 : decode b_Reader_readColours 23 = .ok (.ireturn, 1) := by decide +kernel
theorem d_Reader_readColours_24 : decode b_Reader_readColours 24 = .ok (.aload_n 0, 1) := by decide +kernel
theorem d_Reader_readColours_25 : decode b_Reader_readColours 25 = .ok (.getfield 15, 3) := by decide +kernel
theorem d_Reader_readColours_28 : decode b_Reader_readColours 28 = .ok (.iload_n 1, 1) := by decide +kernel
theorem d_Reader_readColours_29 : decode b_Reader_readColours 29 = .ok (.iload 4, 2) := by decide +kernel
theorem d_Reader_readColours_31 : decode b_Reader_readColours 31 = .ok (.iload 5, 2) := by decide +kernel
theorem d_Reader_readColours_33 : decode b_Reader_readColours 33 = .ok (.invokevirtual 118, 3) := by decide +kernel
theorem d_Reader_readColours_36 : decode b_Reader_readColours 36 = .ok (.iinc 4 1, 3) := by decide +kernel
theorem d_Reader_readColours_39 : decode b_Reader_readColours 39 = .ok (.goto (-36), 3) := by decide +kernel
theorem d_Reader_readColours_42 : decode b_Reader_readColours 42 = .ok (.iconst 1, 1) := by decide +kernel
theorem d_Reader_readColours_43 : decode b_Reader_readColours 43 = .ok (.ireturn, 1) := by decide +kernel
abbrev b_Reader_readBits : ByteArray := prog_5_method_11_code
def y_Reader_readBits : MethodName := ⟨"MaskLayers$Reader", "readBits", "(II)Z"⟩
theorem d_Reader_readBits_0 : decode b_Reader_readBits 0 = .ok (.iload_n 1, 1) := by decide +kernel
theorem d_Reader_readBits_1 : decode b_Reader_readBits 1 = .ok (.istore_n 3, 1) := by decide +kernel
theorem d_Reader_readBits_2 : decode b_Reader_readBits 2 = .ok (.iload_n 3, 1) := by decide +kernel
theorem d_Reader_readBits_3 : decode b_Reader_readBits 3 = .ok (.iload_n 2, 1) := by decide +kernel
theorem d_Reader_readBits_4 : decode b_Reader_readBits 4 = .ok (.if_icmp .ge 97, 3) := by decide +kernel
theorem d_Reader_readBits_7 : decode b_Reader_readBits 7 = .ok (.aload_n 0, 1) := by decide +kernel
theorem d_Reader_readBits_8 : decode b_Reader_readBits 8 = .ok (.iconst 0, 1) := by decide +kernel
theorem d_Reader_readBits_9 : decode b_Reader_readBits 9 = .ok (.sipush 255, 3) := by decide +kernel
theorem d_Reader_readBits_12 : decode b_Reader_readBits 12 = .ok (.invokevirtual 65, 3) := by decide +kernel
theorem d_Reader_readBits_15 : decode b_Reader_readBits 15 = .ok (.istore 4, 2) := by decide +kernel
theorem d_Reader_readBits_17 : decode b_Reader_readBits 17 = .ok (.iload 4, 2) := by decide +kernel
theorem d_Reader_readBits_19 : decode b_Reader_readBits 19 = .ok (.iconst (-1), 1) := by decide +kernel
theorem d_Reader_readBits_20 : decode b_Reader_readBits 20 = .ok (.if_icmp .ne 5, 3) := by decide +kernel
theorem d_Reader_readBits_23 : decode b_Reader_readBits 23 = .ok (.iconst 0, 1) := by decide +kernel
theorem d_Reader_readBits_24 : decode b_Reader_readBits 24 = .ok (.ireturn, 1) := by decide +kernel
theorem d_Reader_readBits_25 : decode b_Reader_readBits 25 = .ok (.iconst 0, 1) := by decide +kernel
theorem d_Reader_readBits_26 : decode b_Reader_readBits 26 = .ok (.istore 5, 2) := by decide +kernel
theorem d_Reader_readBits_28 : decode b_Reader_readBits 28 = .ok (.iload 5, 2) := by decide +kernel
theorem d_Reader_readBits_30 : decode b_Reader_readBits 30 = .ok (.bipush 8, 2) := by decide +kernel
theorem d_Reader_readBits_32 : decode b_Reader_readBits 32 = .ok (.if_icmp .ge 63, 3) := by decide +kernel
theorem d_Reader_readBits_35 : decode b_Reader_readBits 35 = .ok (.iload 4, 2) := by decide +kernel
theorem d_Reader_readBits_37 : decode b_Reader_readBits 37 = .ok (.bipush 7, 2) := by decide +kernel
theorem d_Reader_readBits_39 : decode b_Reader_readBits 39 = .ok (.iload 5, 2) := by decide +kernel
theorem d_Reader_readBits_41 : decode b_Reader_readBits 41 = .ok (.isub, 1) := by decide +kernel
theorem d_Reader_readBits_42 : decode b_Reader_readBits 42 = .ok (.ishr, 1) := by decide +kernel
theorem d_Reader_readBits_43 : decode b_Reader_readBits 43 = .ok (.iconst 1, 1) := by decide +kernel
theorem d_Reader_readBits_44 : decode b_Reader_readBits 44 = .ok (.iand, 1) := by decide +kernel
theorem d_Reader_readBits_45 : decode b_Reader_readBits 45 = .ok (.istore 6, 2) := by decide +kernel
theorem d_Reader_readBits_47 : decode b_Reader_readBits 47 = .ok (.iload_n 3, 1) := by decide +kernel
theorem d_Reader_readBits_48 : decode b_Reader_readBits 48 = .ok (.iload 5, 2) := by decide +kernel
theorem d_Reader_readBits_50 : decode b_Reader_readBits 50 = .ok (.iadd, 1) := by decide +kernel
theorem d_Reader_readBits_51 : decode b_Reader_readBits 51 = .ok (.iload_n 2, 1) := by decide +kernel
theorem d_Reader_readBits_52 : decode b_Reader_readBits 52 = .ok (.if_icmp .ge 20, 3) := by decide +kernel
theorem d_Reader_readBits_55 : decode b_Reader_readBits 55 = .ok (.aload_n 0, 1) := by decide +kernel
theorem d_Reader_readBits_56 : decode b_Reader_readBits 56 = .ok (.getfield 15, 3) := by decide +kernel
theorem d_Reader_readBits_59 : decode b_Reader_readBits 59 = .ok (.iconst 1, 1) := by decide +kernel
theorem d_Reader_readBits_60 : decode b_Reader_readBits 60 = .ok (.iload_n 3, 1) := by decide +kernel
theorem d_Reader_readBits_61 : decode b_Reader_readBits 61 = .ok (.iload 5, 2) := by decide +kernel
theorem d_Reader_readBits_63 : decode b_Reader_readBits 63 = .ok (.iadd, 1) := by decide +kernel
theorem d_Reader_readBits_64 : decode b_Reader_readBits 64 = .ok (.iload 6, 2) := by decide +kernel
theorem d_Reader_readBits_66 : decode b_Reader_readBits 66 = .ok (.invokevirtual 118, 3) := by decide +kernel
theorem d_Reader_readBits_69 : decode b_Reader_readBits 69 = .ok (.goto 20, 3) := by decide +kernel
theorem d_Reader_readBits_72 : decode b_Reader_readBits 72 = .ok (.iload 6, 2) := by decide +kernel
theorem d_Reader_readBits_74 : decode b_Reader_readBits 74 = .ok (.iconst 1, 1) := by decide +kernel
theorem d_Reader_readBits_75 : decode b_Reader_readBits 75 = .ok (.if_icmp .ne 14, 3) := by decide +kernel
theorem d_Reader_readBits_78 : decode b_Reader_readBits 78 = .ok (.aload_n 0, 1) := by decide +kernel
theorem d_Reader_readBits_79 : decode b_Reader_readBits 79 = .ok (.aload_n 0, 1) := by decide +kernel
theorem d_Reader_readBits_80 : decode b_Reader_readBits 80 = .ok (.getfield 26, 3) := by decide +kernel
theorem d_Reader_readBits_83 : decode b_Reader_readBits 83 = .ok (.iconst 1, 1) := by decide +kernel
theorem d_Reader_readBits_84 : decode b_Reader_readBits 84 = .ok (.isub, 1) := by decide +kernel
theorem d_Reader_readBits_85 : decode b_Reader_readBits 85 = .ok (.invokevirtual 52, 3) := by decide +kernel
theorem d_Reader_readBits_88 : decode b_Reader_readBits 88 = .ok (.ireturn, 1) := by decide +kernel
theorem d_Reader_readBits_89 : decode b_Reader_readBits 89 = .ok (.iinc 5 1, 3) := by decide +kernel
theorem d_Reader_readBits_92 : decode b_Reader_readBits 92 = .ok (.goto (-64), 3) := by decide +kernel
theorem d_Reader_readBits_95 : decode b_Reader_readBits 95 = .ok (.iinc 3 8, 3) := by decide +kernel
theorem d_Reader_readBits_98 : decode b_Reader_readBits 98 = .ok (.goto (-96), 3) := by decide +kernel
theorem d_Reader_readBits_101 : decode b_Reader_readBits 101 = .ok (.iconst 1, 1) := by decide +kernel
theorem d_Reader_readBits_102 : decode b_Reader_readBits 102 = .ok (.ireturn, 1) := by decide +kernel
abbrev b_Reader_readRuns : ByteArray := prog_5_method_10_code
def y_Reader_readRuns : MethodName := ⟨"MaskLayers$Reader", "readRuns", "(III)Z"⟩
theorem d_Reader_readRuns_0 : decode b_Reader_readRuns 0 = .ok (.iconst 0, 1) := by decide +kernel
theorem d_Reader_readRuns_1 : decode b_Reader_readRuns 1 = .ok (.istore 4, 2) := by decide +kernel
theorem d_Reader_readRuns_3 : decode b_Reader_readRuns 3 = .ok (.iconst (-1), 1) := by decide +kernel
theorem d_Reader_readRuns_4 : decode b_Reader_readRuns 4 = .ok (.istore 5, 2) := by decide +kernel
theorem d_Reader_readRuns_6 : decode b_Reader_readRuns 6 = .ok (.iload_n 2, 1) := by decide +kernel
theorem d_Reader_readRuns_7 : decode b_Reader_readRuns 7 = .ok (.istore 6, 2) := by decide +kernel
theorem d_Reader_readRuns_9 : decode b_Reader_readRuns 9 = .ok (.iload 6, 2) := by decide +kernel
theorem d_Reader_readRuns_11 : decode b_Reader_readRuns 11 = .ok (.iload_n 3, 1) := by decide +kernel
theorem d_Reader_readRuns_12 : decode b_Reader_readRuns 12 = .ok (.if_icmp .ge 71, 3) := by decide +kernel
theorem d_Reader_readRuns_15 : decode b_Reader_readRuns 15 = .ok (.iload 4, 2) := by decide +kernel
theorem d_Reader_readRuns_17 : decode b_Reader_readRuns 17 = .ok (.ifCond .ne 45, 3) := by decide +kernel
theorem d_Reader_readRuns_20 : decode b_Reader_readRuns 20 = .ok (.aload_n 0, 1) := by decide +kernel
theorem d_Reader_readRuns_21 : decode b_Reader_readRuns 21 = .ok (.iconst 1, 1) := by decide +kernel
theorem d_Reader_readRuns_22 : decode b_Reader_readRuns 22 = .ok (.sipush 255, 3) := by decide +kernel
theorem d_Reader_readRuns_25 : decode b_Reader_readRuns 25 = .ok (.iload_n 3, 1) := by decide +kernel
theorem d_Reader_readRuns_26 : decode b_Reader_readRuns 26 = .ok (.iload 6, 2) := by decide +kernel
theorem d_Reader_readRuns_28 : decode b_Reader_readRuns 28 = .ok (.isub, 1) := by decide +kernel
theorem d_Reader_readRuns_29 : decode b_Reader_readRuns 29 = .ok (.invokestatic 110, 3) := by decide +kernel
theorem d_Reader_readRuns_32 : decode b_Reader_readRuns 32 = .ok (.invokevirtual 65, 3) := by decide +kernel
theorem d_Reader_readRuns_35 : decode b_Reader_readRuns 35 = .ok (.istore 4, 2) := by decide +kernel
theorem d_Reader_readRuns_37 : decode b_Reader_readRuns 37 = .ok (.iload 4, 2) := by decide +kernel
theorem d_Reader_readRuns_39 : decode b_Reader_readRuns 39 = .ok (.iconst (-1), 1) := by decide +kernel
theorem d_Reader_readRuns_40 : decode b_Reader_readRuns 40 = .ok (.if_icmp .ne 7, 3) := by decide +kernel
theorem d_Reader_readRuns_43 : decode b_Reader_readRuns 43 = .ok (.iconst (-1), 1) := by decide +kernel
theorem d_Reader_readRuns_44 : decode b_Reader_readRuns 44 = .ok (.goto 8, 3) := by decide +kernel
theorem d_Reader_readRuns_47 : decode b_Reader_readRuns 47 = .ok (.aload_n 0, 1) := by decide +kernel
theorem d_Reader_readRuns_48 : decode b_Reader_readRuns 48 = .ok (.iload_n 1, 1) := by decide +kernel
theorem d_Reader_readRuns_49 : decode b_Reader_readRuns 49 = .ok (.invokevirtual 115, 3) := by decide +kernel
theorem d_Reader_readRuns_52 : decode b_Reader_readRuns 52 = .ok (.istore 5, 2) := by decide +kernel
theorem d_Reader_readRuns_54 : decode b_Reader_readRuns 54 = .ok (.iload 5, 2) := by decide +kernel
theorem d_Reader_readRuns_56 : decode b_Reader_readRuns 56 = .ok (.iconst (-1), 1) := by decide +kernel
theorem d_Reader_readRuns_57 : decode b_Reader_readRuns 57 = .ok (.if_icmp .ne 5, 3) := by decide +kernel
theorem d_Reader_readRuns_60 : decode b_Reader_readRuns 60 = .ok (.iconst 0, 1) := by decide +kernel
theorem d_Reader_readRuns_61 : decode b_Reader_readRuns 61 = .ok (.ireturn, 1) := by decide +kernel
theorem d_Reader_readRuns_62 : decode b_Reader_readRuns 62 = .ok (.aload_n 0, 1) := by decide +kernel
theorem d_Reader_readRuns_63 : decode b_Reader_readRuns 63 = .ok (.getfield 15, 3) := by decide +kernel
theorem d_Reader_readRuns_66 : decode b_Reader_readRuns 66 = .ok (.iload_n 1, 1) := by decide +kernel
theorem d_Reader_readRuns_67 : decode b_Reader_readRuns 67 = .ok (.iload 6, 2) := by decide +kernel
theorem d_Reader_readRuns_69 : decode b_Reader_readRuns 69 = .ok (.iload 5, 2) := by decide +kernel
theorem d_Reader_readRuns_71 : decode b_Reader_readRuns 71 = .ok (.invokevirtual 118, 3) := by decide +kernel
theorem d_Reader_readRuns_74 : decode b_Reader_readRuns 74 = .ok (.iinc 4 (-1), 3) := by decide +kernel
theorem d_Reader_readRuns_77 : decode b_Reader_readRuns 77 = .ok (.iinc 6 1, 3) := by decide +kernel
theorem d_Reader_readRuns_80 : decode b_Reader_readRuns 80 = .ok (.goto (-71), 3) := by decide +kernel
theorem d_Reader_readRuns_83 : decode b_Reader_readRuns 83 = .ok (.iconst 1, 1) := by decide +kernel
theorem d_Reader_readRuns_84 : decode b_Reader_readRuns 84 = .ok (.ireturn, 1) := by decide +kernel
abbrev b_Reader_readLayer : ByteArray := prog_5_method_9_code
def y_Reader_readLayer : MethodName := ⟨"MaskLayers$Reader", "readLayer", "(II)Z"⟩
theorem d_Reader_readLayer_0 : decode b_Reader_readLayer 0 = .ok (.aload_n 0, 1) := by decide +kernel
theorem d_Reader_readLayer_1 : decode b_Reader_readLayer 1 = .ok (.getfield 15, 3) := by decide +kernel
theorem d_Reader_readLayer_4 : decode b_Reader_readLayer 4 = .ok (.iload_n 1, 1) := by decide +kernel
theorem d_Reader_readLayer_5 : decode b_Reader_readLayer 5 = .ok (.invokevirtual 86, 3) := by decide +kernel
theorem d_Reader_readLayer_8 : decode b_Reader_readLayer 8 = .ok (.istore_n 3, 1) := by decide +kernel
theorem d_Reader_readLayer_9 : decode b_Reader_readLayer 9 = .ok (.aload_n 0, 1) := by decide +kernel
theorem d_Reader_readLayer_10 : decode b_Reader_readLayer 10 = .ok (.getfield 15, 3) := by decide +kernel
theorem d_Reader_readLayer_13 : decode b_Reader_readLayer 13 = .ok (.iload_n 1, 1) := by decide +kernel
theorem d_Reader_readLayer_14 : decode b_Reader_readLayer 14 = .ok (.iload_n 2, 1) := by decide +kernel
theorem d_Reader_readLayer_15 : decode b_Reader_readLayer 15 = .ok (.invokevirtual 90, 3) := by decide +kernel
theorem d_Reader_readLayer_18 : decode b_Reader_readLayer 18 = .ok (.istore 4, 2) := by decide +kernel
theorem d_Reader_readLayer_20 : decode b_Reader_readLayer 20 = .ok (.aload_n 0, 1) := by decide +kernel
theorem d_Reader_readLayer_21 : decode b_Reader_readLayer 21 = .ok (.iconst 0, 1) := by decide +kernel
theorem d_Reader_readLayer_22 : decode b_Reader_readLayer 22 = .ok (.iconst 1, 1) := by decide +kernel
theorem d_Reader_readLayer_23 : decode b_Reader_readLayer 23 = .ok (.invokevirtual 65, 3) := by decide +kernel
theorem d_Reader_readLayer_26 : decode b_Reader_readLayer 26 = .ok (.istore 5, 2) := by decide +kernel
theorem d_Reader_readLayer_28 : decode b_Reader_readLayer 28 = .ok (.aload_n 0, 1) := by decide +kernel
theorem d_Reader_readLayer_29 : decode b_Reader_readLayer 29 = .ok (.getfield 26, 3) := by decide +kernel
theorem d_Reader_readLayer_32 : decode b_Reader_readLayer 32 = .ok (.istore 6, 2) := by decide +kernel
theorem d_Reader_readLayer_34 : decode b_Reader_readLayer 34 = .ok (.iload 5, 2) := by decide +kernel
theorem d_Reader_readLayer_36 : decode b_Reader_readLayer 36 = .ok (.iconst (-1), 1) := by decide +kernel
theorem d_Reader_readLayer_37 : decode b_Reader_readLayer 37 = .ok (.if_icmp .ne 7, 3) := by decide +kernel
theorem d_Reader_readLayer_40 : decode b_Reader_readLayer 40 = .ok (.iconst (-1), 1) := by decide +kernel
theorem d_Reader_readLayer_41 : decode b_Reader_readLayer 41 = .ok (.goto 11, 3) := by decide +kernel
theorem d_Reader_readLayer_44 : decode b_Reader_readLayer 44 = .ok (.aload_n 0, 1) := by decide +kernel
theorem d_Reader_readLayer_45 : decode b_Reader_readLayer 45 = .ok (.iconst 0, 1) := by decide +kernel
theorem d_Reader_readLayer_46 : decode b_Reader_readLayer 46 = .ok (.sipush 255, 3) := by decide +kernel
theorem d_Reader_readLayer_49 : decode b_Reader_readLayer 49 = .ok (.invokevirtual 65, 3) := by decide +kernel
theorem d_Reader_readLayer_52 : decode b_Reader_readLayer 52 = .ok (.istore 7, 2) := by decide +kernel
theorem d_Reader_readLayer_54 : decode b_Reader_readLayer 54 = .ok (.iload 7, 2) := by decide +kernel
theorem d_Reader_readLayer_56 : decode b_Reader_readLayer 56 = .ok (.iconst (-1), 1) := by decide +kernel
theorem d_Reader_readLayer_57 : decode b_Reader_readLayer 57 = .ok (.if_icmp .ne 7, 3) := by decide +kernel
theorem d_Reader_readLayer_60 : decode b_Reader_readLayer 60 = .ok (.iconst (-1), 1) := by decide +kernel
theorem d_Reader_readLayer_61 : decode b_Reader_readLayer 61 = .ok (.goto 11, 3) := by decide +kernel
theorem d_Reader_readLayer_64 : decode b_Reader_readLayer 64 = .ok (.aload_n 0, 1) := by decide +kernel
theorem d_Reader_readLayer_65 : decode b_Reader_readLayer 65 = .ok (.iconst 0, 1) := by decide +kernel
theorem d_Reader_readLayer_66 : decode b_Reader_readLayer 66 = .ok (.sipush 255, 3) := by decide +kernel
theorem d_Reader_readLayer_69 : decode b_Reader_readLayer 69 = .ok (.invokevirtual 65, 3) := by decide +kernel
theorem d_Reader_readLayer_72 : decode b_Reader_readLayer 72 = .ok (.istore 8, 2) := by decide +kernel
theorem d_Reader_readLayer_74 : decode b_Reader_readLayer 74 = .ok (.iload 8, 2) := by decide +kernel
theorem d_Reader_readLayer_76 : decode b_Reader_readLayer 76 = .ok (.iconst (-1), 1) := by decide +kernel
theorem d_Reader_readLayer_77 : decode b_Reader_readLayer 77 = .ok (.if_icmp .ne 5, 3) := by decide +kernel
theorem d_Reader_readLayer_80 : decode b_Reader_readLayer 80 = .ok (.iconst 0, 1) := by decide +kernel
theorem d_Reader_readLayer_81 : decode b_Reader_readLayer 81 = .ok (.ireturn, 1) := by decide +kernel
theorem d_Reader_readLayer_82 : decode b_Reader_readLayer 82 = .ok (.iload 8, 2) := by decide +kernel
theorem d_Reader_readLayer_84 : decode b_Reader_readLayer 84 = .ok (.bipush 8, 2) := by decide +kernel
theorem d_Reader_readLayer_86 : decode b_Reader_readLayer 86 = .ok (.ishl, 1) := by decide +kernel
theorem d_Reader_readLayer_87 : decode b_Reader_readLayer 87 = .ok (.iload 7, 2) := by decide +kernel
theorem d_Reader_readLayer_89 : decode b_Reader_readLayer 89 = .ok (.ior, 1) := by decide +kernel
theorem d_Reader_readLayer_90 : decode b_Reader_readLayer 90 = .ok (.istore 9, 2) := by decide +kernel
theorem d_Reader_readLayer_92 : decode b_Reader_readLayer 92 = .ok (.iload 5, 2) := by decide +kernel
theorem d_Reader_readLayer_94 : decode b_Reader_readLayer 94 = .ok (.ifCond .ne 23, 3) := by decide +kernel
theorem d_Reader_readLayer_97 : decode b_Reader_readLayer 97 = .ok (.iload 9, 2) := by decide +kernel
theorem d_Reader_readLayer_99 : decode b_Reader_readLayer 99 = .ok (.iload_n 2, 1) := by decide +kernel
theorem d_Reader_readLayer_100 : decode b_Reader_readLayer 100 = .ok (.iload 4, 2) := by decide +kernel
theorem d_Reader_readLayer_102 : decode b_Reader_readLayer 102 = .ok (.iload_n 3, 1) := by decide +kernel
theorem d_Reader_readLayer_103 : decode b_Reader_readLayer 103 = .ok (.isub, 1) := by decide +kernel
theorem d_Reader_readLayer_104 : decode b_Reader_readLayer 104 = .ok (.invokestatic 93, 3) := by decide +kernel
theorem d_Reader_readLayer_107 : decode b_Reader_readLayer 107 = .ok (.if_icmp .eq 10, 3) := by decide +kernel
theorem d_Reader_readLayer_110 : decode b_Reader_readLayer 110 = .ok (.aload_n 0, 1) := by decide +kernel
theorem d_Reader_readLayer_111 : decode b_Reader_readLayer 111 = .ok (.iload 6, 2) := by decide +kernel
theorem d_Reader_readLayer_113 : decode b_Reader_readLayer 113 = .ok (.invokevirtual 52, 3) := by decide +kernel
theorem d_Reader_readLayer_116 : decode b_Reader_readLayer 116 = .ok (.ireturn, 1) := by decide +kernel
theorem d_Reader_readLayer_117 : decode b_Reader_readLayer 117 = .ok (.iload 5, 2) := by decide +kernel
theorem d_Reader_readLayer_119 : decode b_Reader_readLayer 119 = .ok (.iconst 1, 1) := by decide +kernel
theorem d_Reader_readLayer_120 : decode b_Reader_readLayer 120 = .ok (.if_icmp .ne 14, 3) := by decide +kernel
theorem d_Reader_readLayer_123 : decode b_Reader_readLayer 123 = .ok (.aload_n 0, 1) := by decide +kernel
theorem d_Reader_readLayer_124 : decode b_Reader_readLayer 124 = .ok (.iload_n 2, 1) := by decide +kernel
theorem d_Reader_readLayer_125 : decode b_Reader_readLayer 125 = .ok (.iload_n 3, 1) := by decide +kernel
theorem d_Reader_readLayer_126 : decode b_Reader_readLayer 126 = .ok (.iload 4, 2) := by decide +kernel
theorem d_Reader_readLayer_128 : decode b_Reader_readLayer 128 = .ok (.invokevirtual 96, 3) := by decide +kernel
theorem d_Reader_readLayer_131 : decode b_Reader_readLayer 131 = .ok (.goto 26, 3) := by decide +kernel
theorem d_Reader_readLayer_134 : decode b_Reader_readLayer 134 = .ok (.iload_n 2, 1) := by decide +kernel
theorem d_Reader_readLayer_135 : decode b_Reader_readLayer 135 = .ok (.iconst 1, 1) := by decide +kernel
theorem d_Reader_readLayer_136 : decode b_Reader_readLayer 136 = .ok (.if_icmp .ne 13, 3) := by decide +kernel
theorem d_Reader_readLayer_139 : decode b_Reader_readLayer 139 = .ok (.aload_n 0, 1) := by decide +kernel
theorem d_Reader_readLayer_140 : decode b_Reader_readLayer 140 = .ok (.iload_n 3, 1) := by decide +kernel
theorem d_Reader_readLayer_141 : decode b_Reader_readLayer 141 = .ok (.iload 4, 2) := by decide +kernel
theorem d_Reader_readLayer_143 : decode b_Reader_readLayer 143 = .ok (.invokevirtual 100, 3) := by decide +kernel
theorem d_Reader_readLayer_146 : decode b_Reader_readLayer 146 = .ok (.goto 11, 3) := by decide +kernel
theorem d_Reader_readLayer_149 : decode b_Reader_readLayer 149 = .ok (.aload_n 0, 1) := by decide +kernel
theorem d_Reader_readLayer_150 : decode b_Reader_readLayer 150 = .ok (.iload_n 2, 1) := by decide +kernel
theorem d_Reader_readLayer_151 : decode b_Reader_readLayer 151 = .ok (.iload_n 3, 1) := by decide +kernel
theorem d_Reader_readLayer_152 : decode b_Reader_readLayer 152 = .ok (.iload 4, 2) := by decide +kernel
theorem d_Reader_readLayer_154 : decode b_Reader_readLayer 154 = .ok (.invokevirtual 103, 3) := by decide +kernel
theorem d_Reader_readLayer_157 : decode b_Reader_readLayer 157 = .ok (.istore 10, 2) := by decide +kernel
theorem d_Reader_readLayer_159 : decode b_Reader_readLayer 159 = .ok (.iload 10, 2) := by decide +kernel
theorem d_Reader_readLayer_161 : decode b_Reader_readLayer 161 = .ok (.ifCond .ne 5, 3) := by decide +kernel
theorem d_Reader_readLayer_164 : decode b_Reader_readLayer 164 = .ok (.iconst 0, 1) := by decide +kernel
theorem d_Reader_readLayer_165 : decode b_Reader_readLayer 165 = .ok (.ireturn, 1) := by decide +kernel
theorem d_Reader_readLayer_166 : decode b_Reader_readLayer 166 = .ok (.aload_n 0, 1) := by decide +kernel
theorem d_Reader_readLayer_167 : decode b_Reader_readLayer 167 = .ok (.getfield 26, 3) := by decide +kernel
theorem d_Reader_readLayer_170 : decode b_Reader_readLayer 170 = .ok (.iload 6, 2) := by decide +kernel
theorem d_Reader_readLayer_172 : decode b_Reader_readLayer 172 = .ok (.isub, 1) := by decide +kernel
theorem d_Reader_readLayer_173 : decode b_Reader_readLayer 173 = .ok (.iconst 2, 1) := by decide +kernel
theorem d_Reader_readLayer_174 : decode b_Reader_readLayer 174 = .ok (.isub, 1) := by decide +kernel
theorem d_Reader_readLayer_175 : decode b_Reader_readLayer 175 = .ok (.iload 9, 2) := by decide +kernel
theorem d_Reader_readLayer_177 : decode b_Reader_readLayer 177 = .ok (.if_icmp .eq 10, 3) := by decide +kernel
theorem d_Reader_readLayer_180 : decode b_Reader_readLayer 180 = .ok (.aload_n 0, 1) := by decide +kernel
theorem d_Reader_readLayer_181 : decode b_Reader_readLayer 181 = .ok (.iload 6, 2) := by decide +kernel
theorem d_Reader_readLayer_183 : decode b_Reader_readLayer 183 = .ok (.invokevirtual 52, 3) := by decide +kernel
