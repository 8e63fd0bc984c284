theorem d_Reader_take_33 : decode b_Reader_take 33 = .ok (.if_icmp .lt 8, 3) := by decide +kernel
theorem d_Reader_take_36 : decode b_Reader_take 36 = .ok (.iload_n 3, 1) := by decide +kernel
theorem d_Reader_take_37 : decode b_Reader_take 37 = .ok (.iload_n 2, 1) := by decide +kernel
theorem d_Reader_take_38 : decode b_Reader_take 38 = .ok (.if_icmp .le 13, 3) := by decide +kernel
theorem d_Reader_take_41 : decode b_Reader_take 41 = .ok (.aload_n 0, 1) := by decide +kernel
theorem d_Reader_take_42 : decode b_Reader_take 42 = .ok (.aload_n 0, 1) := by decide +kernel
theorem d_Reader_take_43 : decode b_Reader_take 43 = .ok (.getfield 26, 3) := by decide +kernel
theorem d_Reader_take_46 : decode b_Reader_take 46 = .ok (.putfield 56, 3) := by decide +kernel
theorem d_Reader_take_49 : decode b_Reader_take 49 = .ok (.iconst (-1), 1) := by decide +kernel
theorem d_Reader_take_50 : decode b_Reader_take 50 = .ok (.ireturn, 1) := by decide +kernel
theorem d_Reader_take_51 : decode b_Reader_take 51 = .ok (.aload_n 0, 1) := by decide +kernel
theorem d_Reader_take_52 : decode b_Reader_take 52 = .ok (.dup, 1) := by decide +kernel
theorem d_Reader_take_53 : decode b_Reader_take 53 = .ok (.getfield 26, 3) := by decide +kernel
theorem d_Reader_take_56 : decode b_Reader_take 56 = .ok (.iconst 1, 1) := by decide +kernel
theorem d_Reader_take_57 : decode b_Reader_take 57 = .ok (.iadd, 1) := by decide +kernel
theorem d_Reader_take_58 : decode b_Reader_take 58 = .ok (.putfield 26, 3) := by decide +kernel
theorem d_Reader_take_61 : decode b_Reader_take 61 = .ok (.iload_n 3, 1) := by decide +kernel
theorem d_Reader_take_62 : decode b_Reader_take 62 = .ok (.ireturn, 1) := by decide +kernel
abbrev b_Reader_takeValue : ByteArray := prog_5_method_13_code
def y_Reader_takeValue : MethodName := ⟨"MaskLayers$Reader", "takeValue", "(I)I"⟩
theorem d_Reader_takeValue_0 : decode b_Reader_takeValue 0 = .ok (.iload_n 1, 1) := by decide +kernel
theorem d_Reader_takeValue_1 : decode b_Reader_takeValue 1 = .ok (.iconst 1, 1) := by decide +kernel
theorem d_Reader_takeValue_2 : decode b_Reader_takeValue 2 = .ok (.if_icmp .ne 10, 3) := by decide +kernel
theorem d_Reader_takeValue_5 : decode b_Reader_takeValue 5 = .ok (.aload_n 0, 1) := by decide +kernel
theorem d_Reader_takeValue_6 : decode b_Reader_takeValue 6 = .ok (.iconst 0, 1) := by decide +kernel
theorem d_Reader_takeValue_7 : decode b_Reader_takeValue 7 = .ok (.iconst 1, 1) := by decide +kernel
theorem d_Reader_takeValue_8 : decode b_Reader_takeValue 8 = .ok (.invokevirtual 65, 3) := by decide +kernel
theorem d_Reader_takeValue_11 : decode b_Reader_takeValue 11 = .ok (.ireturn, 1) := by decide +kernel
theorem d_Reader_takeValue_12 : decode b_Reader_takeValue 12 = .ok (.aload_n 0, 1) := by decide +kernel
theorem d_Reader_takeValue_13 : decode b_Reader_takeValue 13 = .ok (.iconst 0, 1) := by decide +kernel
theorem d_Reader_takeValue_14 : decode b_Reader_takeValue 14 = .ok (.sipush 255, 3) := by decide +kernel
theorem d_Reader_takeValue_17 : decode b_Reader_takeValue 17 = .ok (.invokevirtual 65, 3) := by decide +kernel
theorem d_Reader_takeValue_20 : decode b_Reader_takeValue 20 = .ok (.istore_n 2, 1) := by decide +kernel
theorem d_Reader_takeValue_21 : decode b_Reader_takeValue 21 = .ok (.iload_n 2, 1) := by decide +kernel
theorem d_Reader_takeValue_22 : decode b_Reader_takeValue 22 = .ok (.iconst (-1), 1) := by decide +kernel
theorem d_Reader_takeValue_23 : decode b_Reader_takeValue 23 = .ok (.if_icmp .ne 7, 3) := by decide +kernel
theorem d_Reader_takeValue_26 : decode b_Reader_takeValue 26 = .ok (.iconst (-1), 1) := by decide +kernel
theorem d_Reader_takeValue_27 : decode b_Reader_takeValue 27 = .ok (.goto 11, 3) := by decide +kernel
theorem d_Reader_takeValue_30 : decode b_Reader_takeValue 30 = .ok (.aload_n 0, 1) := by decide +kernel
theorem d_Reader_takeValue_31 : decode b_Reader_takeValue 31 = .ok (.iconst 0, 1) := by decide +kernel
theorem d_Reader_takeValue_32 : decode b_Reader_takeValue 32 = .ok (.sipush 255, 3) := by decide +kernel
theorem d_Reader_takeValue_35 : decode b_Reader_takeValue 35 = .ok (.invokevirtual 65, 3) := by decide +kernel
theorem d_Reader_takeValue_38 : decode b_Reader_takeValue 38 = .ok (.istore_n 3, 1) := by decide +kernel
theorem d_Reader_takeValue_39 : decode b_Reader_takeValue 39 = .ok (.iload_n 3, 1) := by decide +kernel
theorem d_Reader_takeValue_40 : decode b_Reader_takeValue 40 = .ok (.iconst (-1), 1) := by decide +kernel
theorem d_Reader_takeValue_41 : decode b_Reader_takeValue 41 = .ok (.if_icmp .ne 7, 3) := by decide +kernel
theorem d_Reader_takeValue_44 : decode b_Reader_takeValue 44 = .ok (.iconst (-1), 1) := by decide +kernel
theorem d_Reader_takeValue_45 : decode b_Reader_takeValue 45 = .ok (.goto 11, 3) := by decide +kernel
theorem d_Reader_takeValue_48 : decode b_Reader_takeValue 48 = .ok (.aload_n 0, 1) := by decide +kernel
theorem d_Reader_takeValue_49 : decode b_Reader_takeValue 49 = .ok (.iconst 0, 1) := by decide +kernel
theorem d_Reader_takeValue_50 : decode b_Reader_takeValue 50 = .ok (.sipush 255, 3) := by decide +kernel
theorem d_Reader_takeValue_53 : decode b_Reader_takeValue 53 = .ok (.invokevirtual 65, 3) := by decide +kernel
theorem d_Reader_takeValue_56 : decode b_Reader_takeValue 56 = .ok (.istore 4, 2) := by decide +kernel
theorem d_Reader_takeValue_58 : decode b_Reader_takeValue 58 = .ok (.iload 4, 2) := by decide +kernel
theorem d_Reader_takeValue_60 : decode b_Reader_takeValue 60 = .ok (.iconst (-1), 1) := by decide +kernel
theorem d_Reader_takeValue_61 : decode b_Reader_takeValue 61 = .ok (.if_icmp .ne 7, 3) := by decide +kernel
theorem d_Reader_takeValue_64 : decode b_Reader_takeValue 64 = .ok (.iconst (-1), 1) := by decide +kernel
theorem d_Reader_takeValue_65 : decode b_Reader_takeValue 65 = .ok (.goto 10, 3) := by decide +kernel
theorem d_Reader_takeValue_68 : decode b_Reader_takeValue 68 = .ok (.iload_n 2, 1) := by decide +kernel
theorem d_Reader_takeValue_69 : decode b_Reader_takeValue 69 = .ok (.iload_n 3, 1) := by decide +kernel
theorem d_Reader_takeValue_70 : decode b_Reader_takeValue 70 = .ok (.iload 4, 2) := by decide +kernel
theorem d_Reader_takeValue_72 : decode b_Reader_takeValue 72 = .ok (.invokestatic 122, 3) := by decide +kernel
theorem d_Reader_takeValue_75 : decode b_Reader_takeValue 75 = .ok (.ireturn, 1) := by decide +kernel
abbrev b_Reader_readColours : ByteArray := prog_5_method_12_code
def y_Reader_readColours : MethodName := ⟨"MaskLayers$Reader", "readColours", "(III)Z"⟩
theorem d_Reader_readColours_0 : decode b_Reader_readColours 0 = .ok (.iload_n 2, 1) := by decide +kernel
theorem d_Reader_readColours_1 : decode b_Reader_readColours 1 = .ok (.istore 4, 2) := by decide +kernel
theorem d_Reader_readColours_3 : decode b_Reader_readColours 3 = .ok (.iload 4, 2) := by decide +kernel
theorem d_Reader_readColours_5 : decode b_Reader_readColours 5 = .ok (.iload_n 3, 1) := by decide +kernel
theorem d_Reader_readColours_6 : decode b_Reader_readColours 6 = .ok (.if_icmp .ge 38, 3) := by decide +kernel
theorem d_Reader_readColours_9 : decode b_Reader_readColours 9 = .ok (.aload_n 0, 1) := by decide +kernel
theorem d_Reader_readColours_10 : decode b_Reader_readColours 10 = .ok (.iload_n 1, 1) := by decide +kernel
theorem d_Reader_readColours_11 : decode b_Reader_readColours 11 = .ok (.invokevirtual 115, 3) := by decide +kernel
theorem d_Reader_readColours_14 : decode b_Reader_readColours 14 = .ok (.istore 5, 2) := by decide +kernel
theorem d_Reader_readColours_16 : decode b_Reader_readColours 16 = .ok (.iload 5, 2) := by decide +kernel
theorem d_Reader_readColours_18 : decode b_Reader_readColours 18 = .ok (.iconst (-1), 1) := by decide +kernel
theorem d_Reader_readColours_19 : decode b_Reader_readColours 19 = .ok (.if_icmp .ne 5, 3) := by decide +kernel
theorem d_Reader_readColours_22 : decode b_Reader_readColours 22 = .ok (.iconst 0, 1) := by decide +kernel
theorem d_Reader_readColours_23 : decode b_Reader_readColours 23 = .ok (.ireturn, 1) := by decide +kernel
theorem d_Reader_readColours_24 : decode b_Reader_readColours 24 = .ok (.aload_n 0, 1) := by decide +kernel
theorem d_Reader_readColours_25 : decode b_Reader_readColours 25 = .ok (.getfield 15, 3) := by decide +kernel
theorem d_Reader_readColours_28 : decode b_Reader_readColours 28 = .ok (.getfield 118, 3) := by decide +kernel
theorem d_Reader_readColours_31 : decode b_Reader_readColours 31 = .ok (.iload_n 1, 1) := by decide +kernel
theorem d_Reader_readColours_32 : decode b_Reader_readColours 32 = .ok (.aaload, 1) := by decide +kernel
theorem d_Reader_readColours_33 : decode b_Reader_readColours 33 = .ok (.iload 4, 2) := by decide +kernel
theorem d_Reader_readColours_35 : decode b_Reader_readColours 35 = .ok (.iload 5, 2) := by decide +kernel
theorem d_Reader_readColours_37 : decode b_Reader_readColours 37 = .ok (.iastore, 1) := by decide +kernel
theorem d_Reader_readColours_38 : decode b_Reader_readColours 38 = .ok (.iinc 4 1, 3) := by decide +kernel
theorem d_Reader_readColours_41 : decode b_Reader_readColours 41 = .ok (.goto (-38), 3) := by decide +kernel
theorem d_Reader_readColours_44 : decode b_Reader_readColours 44 = .ok (.iconst 1, 1) := by decide +kernel
theorem d_Reader_readColours_45 : decode b_Reader_readColours 45 = .ok (.ireturn, 1) := by decide +kernel
abbrev b_Reader_readBits : ByteArray := prog_5_method_11_code
def y_Reader_readBits : MethodName := ⟨"MaskLayers$Reader", "readBits", "(II)Z"⟩
theorem d_Reader_readBits_0 : decode b_Reader_readBits 0 = .ok (.iload_n 1, 1) := by decide +kernel
theorem d_Reader_readBits_1 : decode b_Reader_readBits 1 = .ok (.istore_n 3, 1) := by decide +kernel
theorem d_Reader_readBits_2 : decode b_Reader_readBits 2 = .ok (.iload_n 3, 1) := by decide +kernel
theorem d_Reader_readBits_3 : decode b_Reader_readBits 3 = .ok (.iload_n 2, 1) := by decide +kernel
theorem d_Reader_readBits_4 : decode b_Reader_readBits 4 = .ok (.if_icmp .ge 99, 3) := by decide +kernel
theorem d_Reader_readBits_7 : decode b_Reader_readBits 7 = .ok (.aload_n 0, 1) := by decide +kernel
theorem d_Reader_readBits_8 : decode b_Reader_readBits 8 = .ok (.iconst 0, 1) := by decide +kernel
theorem d_Reader_readBits_9 : decode b_Reader_readBits 9 = .ok (.sipush 255, 3) := by decide +kernel
theorem d_Reader_readBits_12 : decode b_Reader_readBits 12 = .ok (.invokevirtual 65, 3) := by decide +kernel
theorem d_Reader_readBits_15 : decode b_Reader_readBits 15 = .ok (.istore 4, 2) := by decide +kernel
theorem d_Reader_readBits_17 : decode b_Reader_readBits 17 = .ok (.iload 4, 2) := by decide +kernel
theorem d_Reader_readBits_19 : decode b_Reader_readBits 19 = .ok (.iconst (-1), 1) := by decide +kernel
theorem d_Reader_readBits_20 : decode b_Reader_readBits 20 = .ok (.if_icmp .ne 5, 3) := by decide +kernel
theorem d_Reader_readBits_23 : decode b_Reader_readBits 23 = .ok (.iconst 0, 1) := by decide +kernel
theorem d_Reader_readBits_24 : decode b_Reader_readBits 24 = .ok (.ireturn, 1) := by decide +kernel
theorem d_Reader_readBits_25 : decode b_Reader_readBits 25 = .ok (.iconst 0, 1) := by decide +kernel
theorem d_Reader_readBits_26 : decode b_Reader_readBits 26 = .ok (.istore 5, 2) := by decide +kernel
theorem d_Reader_readBits_28 : decode b_Reader_readBits 28 = .ok (.iload 5, 2) := by decide +kernel
theorem d_Reader_readBits_30 : decode b_Reader_readBits 30 = .ok (.bipush 8, 2) := by decide +kernel
theorem d_Reader_readBits_32 : decode b_Reader_readBits 32 = .ok (.if_icmp .ge 65, 3) := by decide +kernel
theorem d_Reader_readBits_35 : decode b_Reader_readBits 35 = .ok (.iload 4, 2) := by decide +kernel
theorem d_Reader_readBits_37 : decode b_Reader_readBits 37 = .ok (.bipush 7, 2) := by decide +kernel
theorem d_Reader_readBits_39 : decode b_Reader_readBits 39 = .ok (.iload 5, 2) := by decide +kernel
theorem d_Reader_readBits_41 : decode b_Reader_readBits 41 = .ok (.isub, 1) := by decide +kernel
theorem d_Reader_readBits_42 : decode b_Reader_readBits 42 = .ok (.ishr, 1) := by decide +kernel
theorem d_Reader_readBits_43 : decode b_Reader_readBits 43 = .ok (.iconst 1, 1) := by decide +kernel
theorem d_Reader_readBits_44 : decode b_Reader_readBits 44 = .ok (.iand, 1) := by decide +kernel
theorem d_Reader_readBits_45 : decode b_Reader_readBits 45 = .ok (.istore 6, 2) := by decide +kernel
theorem d_Reader_readBits_47 : decode b_Reader_readBits 47 = .ok (.iload_n 3, 1) := by decide +kernel
theorem d_Reader_readBits_48 : decode b_Reader_readBits 48 = .ok (.iload 5, 2) := by decide +kernel
theorem d_Reader_readBits_50 : decode b_Reader_readBits 50 = .ok (.iadd, 1) := by decide +kernel
theorem d_Reader_readBits_51 : decode b_Reader_readBits 51 = .ok (.iload_n 2, 1) := by decide +kernel
theorem d_Reader_readBits_52 : decode b_Reader_readBits 52 = .ok (.if_icmp .ge 22, 3) := by decide +kernel
theorem d_Reader_readBits_55 : decode b_Reader_readBits 55 = .ok (.aload_n 0, 1) := by decide +kernel
theorem d_Reader_readBits_56 : decode b_Reader_readBits 56 = .ok (.getfield 15, 3) := by decide +kernel
theorem d_Reader_readBits_59 : decode b_Reader_readBits 59 = .ok (.getfield 118, 3) := by decide +kernel
theorem d_Reader_readBits_62 : decode b_Reader_readBits 62 = .ok (.iconst 1, 1) := by decide +kernel
theorem d_Reader_readBits_63 : decode b_Reader_readBits 63 = .ok (.aaload, 1) := by decide +kernel
theorem d_Reader_readBits_64 : decode b_Reader_readBits 64 = .ok (.iload_n 3, 1) := by decide +kernel
theorem d_Reader_readBits_65 : decode b_Reader_readBits 65 = .ok (.iload 5, 2) := by decide +kernel
theorem d_Reader_readBits_67 : decode b_Reader_readBits 67 = .ok (.iadd, 1) := by decide +kernel
theorem d_Reader_readBits_68 : decode b_Reader_readBits 68 = .ok (.iload 6, 2) := by decide +kernel
theorem d_Reader_readBits_70 : decode b_Reader_readBits 70 = .ok (.iastore, 1) := by decide +kernel
theorem d_Reader_readBits_71 : decode b_Reader_readBits 71 = .ok (.goto 20, 3) := by decide +kernel
theorem d_Reader_readBits_74 : decode b_Reader_readBits 74 = .ok (.iload 6, 2) := by decide +kernel
theorem d_Reader_readBits_76 : decode b_Reader_readBits 76 = .ok (.iconst 1, 1) := by decide +kernel
theorem d_Reader_readBits_77 : decode b_Reader_readBits 77 = .ok (.if_icmp .ne 14, 3) := by decide +kernel
theorem d_Reader_readBits_80 : decode b_Reader_readBits 80 = .ok (.aload_n 0, 1) := by decide +kernel
theorem d_Reader_readBits_81 : decode b_Reader_readBits 81 = .ok (.aload_n 0, 1) := by decide +kernel
theorem d_Reader_readBits_82 : decode b_Reader_readBits 82 = .ok (.getfield 26, 3) := by decide +kernel
theorem d_Reader_readBits_85 : decode b_Reader_readBits 85 = .ok (.iconst 1, 1) := by decide +kernel
theorem d_Reader_readBits_86 : decode b_Reader_readBits 86 = .ok (.isub, 1) := by decide +kernel
theorem d_Reader_readBits_87 : decode b_Reader_readBits 87 = .ok (.invokevirtual 52, 3) := by decide +kernel
theorem d_Reader_readBits_90 : decode b_Reader_readBits 90 = .ok (.ireturn, 1) := by decide +kernel
theorem d_Reader_readBits_91 : decode b_Reader_readBits 91 = .ok (.iinc 5 1, 3) := by decide +kernel
theorem d_Reader_readBits_94 : decode b_Reader_readBits 94 = .ok (.goto (-66), 3) := by decide +kernel
theorem d_Reader_readBits_97 : decode b_Reader_readBits 97 = .ok (.iinc 3 8, 3) := by decide +kernel
theorem d_Reader_readBits_100 : decode b_Reader_readBits 100 = .ok (.goto (-98), 3) := by decide +kernel
theorem d_Reader_readBits_103 : decode b_Reader_readBits 103 = .ok (.iconst 1, 1) := by decide +kernel
theorem d_Reader_readBits_104 : decode b_Reader_readBits 104 = .ok (.ireturn, 1) := by decide +kernel
abbrev b_Reader_readRuns : ByteArray := prog_5_method_10_code
def y_Reader_readRuns : MethodName := ⟨"MaskLayers$Reader", "readRuns", "(III)Z"⟩
theorem d_Reader_readRuns_0 : decode b_Reader_readRuns 0 = .ok (.iconst 0, 1) := by decide +kernel
theorem d_Reader_readRuns_1 : decode b_Reader_readRuns 1 = .ok (.istore 4, 2) := by decide +kernel
theorem d_Reader_readRuns_3 : decode b_Reader_readRuns 3 = .ok (.iconst (-1), 1) := by decide +kernel
theorem d_Reader_readRuns_4 : decode b_Reader_readRuns 4 = .ok (.istore 5, 2) := by decide +kernel
theorem d_Reader_readRuns_6 : decode b_Reader_readRuns 6 = .ok (.iload_n 2, 1) := by decide +kernel
theorem d_Reader_readRuns_7 : decode b_Reader_readRuns 7 = .ok (.istore 6, 2) := by decide +kernel
theorem d_Reader_readRuns_9 : decode b_Reader_readRuns 9 = .ok (.iload 6, 2) := by decide +kernel
theorem d_Reader_readRuns_11 : decode b_Reader_readRuns 11 = .ok (.iload_n 3, 1) := by decide +kernel
theorem d_Reader_readRuns_12 : decode b_Reader_readRuns 12 = .ok (.if_icmp .ge 73, 3) := by decide +kernel
theorem d_Reader_readRuns_15 : decode b_Reader_readRuns 15 = .ok (.iload 4, 2) := by decide +kernel
theorem d_Reader_readRuns_17 : decode b_Reader_readRuns 17 = .ok (.ifCond .ne 45, 3) := by decide +kernel
theorem d_Reader_readRuns_20 : decode b_Reader_readRuns 20 = .ok (.aload_n 0, 1) := by decide +kernel
theorem d_Reader_readRuns_21 : decode b_Reader_readRuns 21 = .ok (.iconst 1, 1) := by decide +kernel
theorem d_Reader_readRuns_22 : decode b_Reader_readRuns 22 = .ok (.sipush 255, 3) := by decide +kernel
theorem d_Reader_readRuns_25 : decode b_Reader_readRuns 25 = .ok (.iload_n 3, 1) := by decide +kernel
theorem d_Reader_readRuns_26 : decode b_Reader_readRuns 26 = .ok (.iload 6, 2) := by decide +kernel
theorem d_Reader_readRuns_28 : decode b_Reader_readRuns 28 = .ok (.isub, 1) := by decide +kernel
theorem d_Reader_readRuns_29 : decode b_Reader_readRuns 29 = .ok (.invokestatic 110, 3) := by decide +kernel
theorem d_Reader_readRuns_32 : decode b_Reader_readRuns 32 = .ok (.invokevirtual 65, 3) := by decide +kernel
theorem d_Reader_readRuns_35 : decode b_Reader_readRuns 35 = .ok (.istore 4, 2) := by decide +kernel
theorem d_Reader_readRuns_37 : decode b_Reader_readRuns 37 = .ok (.iload 4, 2) := by decide +kernel
theorem d_Reader_readRuns_39 : decode b_Reader_readRuns 39 = .ok (.iconst (-1), 1) := by decide +kernel
theorem d_Reader_readRuns_40 : decode b_Reader_readRuns 40 = .ok (.if_icmp .ne 7, 3) := by decide +kernel
theorem d_Reader_readRuns_43 : decode b_Reader_readRuns 43 = .ok (.iconst (-1), 1) := by decide +kernel
theorem d_Reader_readRuns_44 : decode b_Reader_readRuns 44 = .ok (.goto 8, 3) := by decide +kernel
theorem d_Reader_readRuns_47 : decode b_Reader_readRuns 47 = .ok (.aload_n 0, 1) := by decide +kernel
theorem d_Reader_readRuns_48 : decode b_Reader_readRuns 48 = .ok (.iload_n 1, 1) := by decide +kernel
theorem d_Reader_readRuns_49 : decode b_Reader_readRuns 49 = .ok (.invokevirtual 115, 3) := by decide +kernel
theorem d_Reader_readRuns_52 : decode b_Reader_readRuns 52 = .ok (.istore 5, 2) := by decide +kernel
theorem d_Reader_readRuns_54 : decode b_Reader_readRuns 54 = .ok (.iload 5, 2) := by decide +kernel
theorem d_Reader_readRuns_56 : decode b_Reader_readRuns 56 = .ok (.iconst (-1), 1) := by decide +kernel
theorem d_Reader_readRuns_57 : decode b_Reader_readRuns 57 = .ok (.if_icmp .ne 5, 3) := by decide +kernel
theorem d_Reader_readRuns_60 : decode b_Reader_readRuns 60 = .ok (.iconst 0, 1) := by decide +kernel
theorem d_Reader_readRuns_61 : decode b_Reader_readRuns 61 = .ok (.ireturn, 1) := by decide +kernel
theorem d_Reader_readRuns_62 : decode b_Reader_readRuns 62 = .ok (.aload_n 0, 1) := by decide +kernel
theorem d_Reader_readRuns_63 : decode b_Reader_readRuns 63 = .ok (.getfield 15, 3) := by decide +kernel
theorem d_Reader_readRuns_66 : decode b_Reader_readRuns 66 = .ok (.getfield 118, 3) := by decide +kernel
theorem d_Reader_readRuns_69 : decode b_Reader_readRuns 69 = .ok (.iload_n 1, 1) := by decide +kernel
theorem d_Reader_readRuns_70 : decode b_Reader_readRuns 70 = .ok (.aaload, 1) := by decide +kernel
theorem d_Reader_readRuns_71 : decode b_Reader_readRuns 71 = .ok (.iload 6, 2) := by decide +kernel
theorem d_Reader_readRuns_73 : decode b_Reader_readRuns 73 = .ok (.iload 5, 2) := by decide +kernel
theorem d_Reader_readRuns_75 : decode b_Reader_readRuns 75 = .ok (.iastore, 1) := by decide +kernel
theorem d_Reader_readRuns_76 : decode b_Reader_readRuns 76 = .ok (.iinc 4 (-1), 3) := by decide +kernel
theorem d_Reader_readRuns_79 : decode b_Reader_readRuns 79 = .ok (.iinc 6 1, 3) := by decide +kernel
theorem d_Reader_readRuns_82 : decode b_Reader_readRuns 82 = .ok (.goto (-73), 3) := by decide +kernel
theorem d_Reader_readRuns_85 : decode b_Reader_readRuns 85 = .ok (.iconst 1, 1) := by decide +kernel
theorem d_Reader_readRuns_86 : decode b_Reader_readRuns 86 = .ok (.ireturn, 1) := by decide +kernel
abbrev b_Reader_readLayer : ByteArray := prog_5_method_9_code
def y_Reader_readLayer : MethodName := ⟨"MaskLayers$Reader", "readLayer", "(II)Z"⟩
theorem d_Reader_readLayer_0 : decode b_Reader_readLayer 0 = .ok (.aload_n 0, 1) := by decide +kernel
theorem d_Reader_readLayer_1 : decode b_Reader_readLayer 1 = .ok (.getfield 15, 3) := by decide +kernel
theorem d_Reader_readLayer_4 : decode b_Reader_readLayer 4 = .ok (.iload_n 1, 1) := by decide +kernel
theorem d_Reader_readLayer_5 : decode b_Reader_readLayer 5 = .ok (.invokevirtual 86, 3) := by decide +kernel
theorem d_Reader_readLayer_8 : decode b_Reader_readLayer 8 = .ok (.istore_n 3, 1) := by decide +kernel
theorem d_Reader_readLayer_9 : decode b_Reader_readLayer 9 = .ok (.aload_n 0, 1) := by decide +kernel
theorem d_Reader_readLayer_10 : decode b_Reader_readLayer 10 = .ok (.getfield 15, 3) := by decide +kernel
theorem d_Reader_readLayer_13 : decode b_Reader_readLayer 13 = .ok (.iload_n 1, 1) := by decide +kernel
theorem d_Reader_readLayer_14 : decode b_Reader_readLayer 14 = .ok (.iload_n 2, 1) := by decide +kernel
theorem d_Reader_readLayer_15 : decode b_Reader_readLayer 15 = .ok (.invokevirtual 90, 3) := by decide +kernel
theorem d_Reader_readLayer_18 : decode b_Reader_readLayer 18 = .ok (.istore 4, 2) := by decide +kernel
theorem d_Reader_readLayer_20 : decode b_Reader_readLayer 20 = .ok (.aload_n 0, 1) := by decide +kernel
theorem d_Reader_readLayer_21 : decode b_Reader_readLayer 21 = .ok (.iconst 0, 1) := by decide +kernel
theorem d_Reader_readLayer_22 : decode b_Reader_readLayer 22 = .ok (.iconst 1, 1) := by decide +kernel
theorem d_Reader_readLayer_23 : decode b_Reader_readLayer 23 = .ok (.invokevirtual 65, 3) := by decide +kernel
theorem d_Reader_readLayer_26 : decode b_Reader_readLayer 26 = .ok (.istore 5, 2) := by decide +kernel
theorem d_Reader_readLayer_28 : decode b_Reader_readLayer 28 = .ok (.aload_n 0, 1) := by decide +kernel
theorem d_Reader_readLayer_29 : decode b_Reader_readLayer 29 = .ok (.getfield 26, 3) := by decide +kernel
theorem d_Reader_readLayer_32 : decode b_Reader_readLayer 32 = .ok (.istore 6, 2) := by decide +kernel
theorem d_Reader_readLayer_34 : decode b_Reader_readLayer 34 = .ok (.iload 5, 2) := by decide +kernel
theorem d_Reader_readLayer_36 : decode b_Reader_readLayer 36 = .ok (.iconst (-1), 1) := by decide +kernel
theorem d_Reader_readLayer_37 : decode b_Reader_readLayer 37 = .ok (.if_icmp .ne 7, 3) := by decide +kernel
theorem d_Reader_readLayer_40 : decode b_Reader_readLayer 40 = .ok (.iconst (-1), 1) := by decide +kernel
theorem d_Reader_readLayer_41 : decode b_Reader_readLayer 41 = .ok (.goto 11, 3) := by decide +kernel
theorem d_Reader_readLayer_44 : decode b_Reader_readLayer 44 = .ok (.aload_n 0, 1) := by decide +kernel
theorem d_Reader_readLayer_45 : decode b_Reader_readLayer 45 = .ok (.iconst 0, 1) := by decide +kernel
theorem d_Reader_readLayer_46 : decode b_Reader_readLayer 46 = .ok (.sipush 255, 3) := by decide +kernel
theorem d_Reader_readLayer_49 : decode b_Reader_readLayer 49 = .ok (.invokevirtual 65, 3) := by decide +kernel
theorem d_Reader_readLayer_52 : decode b_Reader_readLayer 52 = .ok (.istore 7, 2) := by decide +kernel
theorem d_Reader_readLayer_54 : decode b_Reader_readLayer 54 = .ok (.iload 7, 2) := by decide +kernel
theorem d_Reader_readLayer_56 : decode b_Reader_readLayer 56 = .ok (.iconst (-1), 1) := by decide +kernel
theorem d_Reader_readLayer_57 : decode b_Reader_readLayer 57 = .ok (.if_icmp .ne 7, 3) := by decide +kernel
theorem d_Reader_readLayer_60 : decode b_Reader_readLayer 60 = .ok (.iconst (-1), 1) := by decide +kernel
theorem d_Reader_readLayer_61 : decode b_Reader_readLayer 61 = .ok (.goto 11, 3) := by decide +kernel
theorem d_Reader_readLayer_64 : decode b_Reader_readLayer 64 = .ok (.aload_n 0, 1) := by decide +kernel
theorem d_Reader_readLayer_65 : decode b_Reader_readLayer 65 = .ok (.iconst 0, 1) := by decide +kernel
theorem d_Reader_readLayer_66 : decode b_Reader_readLayer 66 = .ok (.sipush 255, 3) := by decide +kernel
theorem d_Reader_readLayer_69 : decode b_Reader_readLayer 69 = .ok (.invokevirtual 65, 3) := by decide +kernel
theorem d_Reader_readLayer_72 : decode b_Reader_readLayer 72 = .ok (.istore 8, 2) := by decide +kernel
theorem d_Reader_readLayer_74 : decode b_Reader_readLayer 74 = .ok (.iload 8, 2) := by decide +kernel
theorem d_Reader_readLayer_76 : decode b_Reader_readLayer 76 = .ok (.iconst (-1), 1) := by decide +kernel
theorem d_Reader_readLayer_77 : decode b_Reader_readLayer 77 = .ok (.if_icmp .ne 5, 3) := by decide +kernel
theorem d_Reader_readLayer_80 : decode b_Reader_readLayer 80 = .ok (.iconst 0, 1) := by decide +kernel
theorem d_Reader_readLayer_81 : decode b_Reader_readLayer 81 = .ok (.ireturn, 1) := by decide +kernel
theorem d_Reader_readLayer_82 : decode b_Reader_readLayer 82 = .ok (.iload 8, 2) := by decide +kernel
theorem d_Reader_readLayer_84 : decode b_Reader_readLayer 84 = .ok (.bipush 8, 2) := by decide +kernel
theorem d_Reader_readLayer_86 : decode b_Reader_readLayer 86 = .ok (.ishl, 1) := by decide +kernel
theorem d_Reader_readLayer_87 : decode b_Reader_readLayer 87 = .ok (.iload 7, 2) := by decide +kernel
theorem d_Reader_readLayer_89 : decode b_Reader_readLayer 89 = .ok (.ior, 1) := by decide +kernel
theorem d_Reader_readLayer_90 : decode b_Reader_readLayer 90 = .ok (.istore 9, 2) := by decide +kernel
theorem d_Reader_readLayer_92 : decode b_Reader_readLayer 92 = .ok (.iload 5, 2) := by decide +kernel
theorem d_Reader_readLayer_94 : decode b_Reader_readLayer 94 = .ok (.ifCond .ne 23, 3) := by decide +kernel
theorem d_Reader_readLayer_97 : decode b_Reader_readLayer 97 = .ok (.iload 9, 2) := by decide +kernel
theorem d_Reader_readLayer_99 : decode b_Reader_readLayer 99 = .ok (.iload_n 2, 1) := by decide +kernel
theorem d_Reader_readLayer_100 : decode b_Reader_readLayer 100 = .ok (.iload 4, 2) := by decide +kernel
theorem d_Reader_readLayer_102 : decode b_Reader_readLayer 102 = .ok (.iload_n 3, 1) := by decide +kernel
theorem d_Reader_readLayer_103 : decode b_Reader_readLayer 103 = .ok (.isub, 1) := by decide +kernel
theorem d_Reader_readLayer_104 : decode b_Reader_readLayer 104 = .ok (.invokestatic 93, 3) := by decide +kernel
theorem d_Reader_readLayer_107 : decode b_Reader_readLayer 107 = .ok (.if_icmp .eq 10, 3) := by decide +kernel
theorem d_Reader_readLayer_110 : decode b_Reader_readLayer 110 = .ok (.aload_n 0, 1) := by decide +kernel
theorem d_Reader_readLayer_111 : decode b_Reader_readLayer 111 = .ok (.iload 6, 2) := by decide +kernel
theorem d_Reader_readLayer_113 : decode b_Reader_readLayer 113 = .ok (.invokevirtual 52, 3) := by decide +kernel
theorem d_Reader_readLayer_116 : decode b_Reader_readLayer 116 = .ok (.ireturn, 1) := by decide +kernel
theorem d_Reader_readLayer_117 : decode b_Reader_readLayer 117 = .ok (.iload 5, 2) := by decide +kernel
theorem d_Reader_readLayer_119 : decode b_Reader_readLayer 119 = .ok (.iconst 1, 1) := by decide +kernel
theorem d_Reader_readLayer_120 : decode b_Reader_readLayer 120 = .ok (.if_icmp .ne 14, 3) := by decide +kernel
theorem d_Reader_readLayer_123 : decode b_Reader_readLayer 123 = .ok (.aload_n 0, 1) := by decide +kernel
theorem d_Reader_readLayer_124 : decode b_Reader_readLayer 124 = .ok (.iload_n 2, 1) := by decide +kernel
theorem d_Reader_readLayer_125 : decode b_Reader_readLayer 125 = .ok (.iload_n 3, 1) := by decide +kernel
theorem d_Reader_readLayer_126 : decode b_Reader_readLayer 126 = .ok (.iload 4, 2) := by decide +kernel
theorem d_Reader_readLayer_128 : decode b_Reader_readLayer 128 = .ok (.invokevirtual 96, 3) := by decide +kernel
theorem d_Reader_readLayer_131 : decode b_Reader_readLayer 131 = .ok (.goto 26, 3) := by decide +kernel
theorem d_Reader_readLayer_134 : decode b_Reader_readLayer 134 = .ok (.iload_n 2, 1) := by decide +kernel
theorem d_Reader_readLayer_135 : decode b_Reader_readLayer 135 = .ok (.iconst 1, 1) := by decide +kernel
theorem d_Reader_readLayer_136 : decode b_Reader_readLayer 136 = .ok (.if_icmp .ne 13, 3) := by decide +kernel
theorem d_Reader_readLayer_139 : decode b_Reader_readLayer 139 = .ok (.aload_n 0, 1) := by decide +kernel
theorem d_Reader_readLayer_140 : decode b_Reader_readLayer 140 = .ok (.iload_n 3, 1) := by decide +kernel
theorem d_Reader_readLayer_141 : decode b_Reader_readLayer 141 = .ok (.iload 4, 2) := by decide +kernel
theorem d_Reader_readLayer_143 : decode b_Reader_readLayer 143 = .ok (.invokevirtual 100, 3) := by decide +kernel
theorem d_Reader_readLayer_146 : decode b_Reader_readLayer 146 = .ok (.goto 11, 3) := by decide +kernel
theorem d_Reader_readLayer_149 : decode b_Reader_readLayer 149 = .ok (.aload_n 0, 1) := by decide +kernel
theorem d_Reader_readLayer_150 : decode b_Reader_readLayer 150 = .ok (.iload_n 2, 1) := by decide +kernel
theorem d_Reader_readLayer_151 : decode b_Reader_readLayer 151 = .ok (.iload_n 3, 1) := by decide +kernel
theorem d_Reader_readLayer_152 : decode b_Reader_readLayer 152 = .ok (.iload 4, 2) := by decide +kernel
theorem d_Reader_readLayer_154 : decode b_Reader_readLayer 154 = .ok (.invokevirtual 103, 3) := by decide +kernel
theorem d_Reader_readLayer_157 : decode b_Reader_readLayer 157 = .ok (.istore 10, 2) := by decide +kernel
theorem d_Reader_readLayer_159 : decode b_Reader_readLayer 159 = .ok (.iload 10, 2) := by decide +kernel
theorem d_Reader_readLayer_161 : decode b_Reader_readLayer 161 = .ok (.ifCond .ne 5, 3) := by decide +kernel
theorem d_Reader_readLayer_164 : decode b_Reader_readLayer 164 = .ok (.iconst 0, 1) := by decide +kernel
theorem d_Reader_readLayer_165 : decode b_Reader_readLayer 165 = .ok (.ireturn, 1) := by decide +kernel
theorem d_Reader_readLayer_166 : decode b_Reader_readLayer 166 = .ok (.aload_n 0, 1) := by decide +kernel
theorem d_Reader_readLayer_167 : decode b_Reader_readLayer 167 = .ok (.getfield 26, 3) := by decide +kernel
theorem d_Reader_readLayer_170 : decode b_Reader_readLayer 170 = .ok (.iload 6, 2) := by decide +kernel
theorem d_Reader_readLayer_172 : decode b_Reader_readLayer 172 = .ok (.isub, 1) := by decide +kernel
theorem d_Reader_readLayer_173 : decode b_Reader_readLayer 173 = .ok (.iconst 2, 1) := by decide +kernel
theorem d_Reader_readLayer_174 : decode b_Reader_readLayer 174 = .ok (.isub, 1) := by decide +kernel
theorem d_Reader_readLayer_175 : decode b_Reader_readLayer 175 = .ok (.iload 9, 2) := by decide +kernel
theorem d_Reader_readLayer_177 : decode b_Reader_readLayer 177 = .ok (.if_icmp .eq 10, 3) := by decide +kernel
theorem d_Reader_readLayer_180 : decode b_Reader_readLayer 180 = .ok (.aload_n 0, 1) := by decide +kernel
theorem d_Reader_readLayer_181 : decode b_Reader_readLayer 181 = .ok (.iload 6, 2) := by decide +kernel
theorem d_Reader_readLayer_183 : decode b_Reader_readLayer 183 = .ok (.invokevirtual 52, 3) := by decide +kernel
theorem d_Reader_readLayer_186 : decode b_Reader_readLayer 186 = .ok (.ireturn, 1) := by decide +kernel
theorem d_Reader_readLayer_187 : decode b_Reader_readLayer 187 = .ok (.aload_n 0, 1) := by decide +kernel
theorem d_Reader_readLayer_188 : decode b_Reader_readLayer 188 = .ok (.getfield 15, 3) := by decide +kernel
theorem d_Reader_readLayer_191 : decode b_Reader_readLayer 191 = .ok (.iload_n 1, 1) := by decide +kernel
theorem d_Reader_readLayer_192 : decode b_Reader_readLayer 192 = .ok (.iload_n 2, 1) := by decide +kernel
theorem d_Reader_readLayer_193 : decode b_Reader_readLayer 193 = .ok (.invokevirtual 106, 3) := by decide +kernel
theorem d_Reader_readLayer_196 : decode b_Reader_readLayer 196 = .ok (.iconst 1, 1) := by decide +kernel
theorem d_Reader_readLayer_197 : decode b_Reader_readLayer 197 = .ok (.ireturn, 1) := by decide +kernel
abbrev b_Reader_readStripe : ByteArray := prog_5_method_6_code
def y_Reader_readStripe : MethodName := ⟨"MaskLayers$Reader", "readStripe", "(I)Z"⟩
theorem d_Reader_readStripe_0 : decode b_Reader_readStripe 0 = .ok (.iconst (-1), 1) := by decide +kernel
theorem d_Reader_readStripe_1 : decode b_Reader_readStripe 1 = .ok (.istore_n 2, 1) := by decide +kernel
theorem d_Reader_readStripe_2 : decode b_Reader_readStripe 2 = .ok (.iconst 0, 1) := by decide +kernel
theorem d_Reader_readStripe_3 : decode b_Reader_readStripe 3 = .ok (.istore_n 3, 1) := by decide +kernel
theorem d_Reader_readStripe_4 : decode b_Reader_readStripe 4 = .ok (.iload_n 3, 1) := by decide +kernel
theorem d_Reader_readStripe_5 : decode b_Reader_readStripe 5 = .ok (.iconst 4, 1) := by decide +kernel
theorem d_Reader_readStripe_6 : decode b_Reader_readStripe 6 = .ok (.if_icmp .gt 112, 3) := by decide +kernel
theorem d_Reader_readStripe_9 : decode b_Reader_readStripe 9 = .ok (.aload_n 0, 1) := by decide +kernel
theorem d_Reader_readStripe_10 : decode b_Reader_readStripe 10 = .ok (.getfield 26, 3) := by decide +kernel
theorem d_Reader_readStripe_13 : decode b_Reader_readStripe 13 = .ok (.istore 4, 2) := by decide +kernel
theorem d_Reader_readStripe_15 : decode b_Reader_readStripe 15 = .ok (.aload_n 0, 1) := by decide +kernel
theorem d_Reader_readStripe_16 : decode b_Reader_readStripe 16 = .ok (.sipush 160, 3) := by decide +kernel
theorem d_Reader_readStripe_19 : decode b_Reader_readStripe 19 = .ok (.sipush 175, 3) := by decide +kernel
theorem d_Reader_readStripe_22 : decode b_Reader_readStripe 22 = .ok (.invokevirtual 65, 3) := by decide +kernel
theorem d_Reader_readStripe_25 : decode b_Reader_readStripe 25 = .ok (.istore 5, 2) := by decide +kernel
theorem d_Reader_readStripe_27 : decode b_Reader_readStripe 27 = .ok (.iload 5, 2) := by decide +kernel
theorem d_Reader_readStripe_29 : decode b_Reader_readStripe 29 = .ok (.iconst (-1), 1) := by decide +kernel
theorem d_Reader_readStripe_30 : decode b_Reader_readStripe 30 = .ok (.if_icmp .ne 5, 3) := by decide +kernel
theorem d_Reader_readStripe_33 : decode b_Reader_readStripe 33 = .ok (.iconst 0, 1) := by decide +kernel
theorem d_Reader_readStripe_34 : decode b_Reader_readStripe 34 = .ok (.ireturn, 1) := by decide +kernel
theorem d_Reader_readStripe_35 : decode b_Reader_readStripe 35 = .ok (.iload 5, 2) := by decide +kernel
theorem d_Reader_readStripe_37 : decode b_Reader_readStripe 37 = .ok (.sipush 160, 3) := by decide +kernel
theorem d_Reader_readStripe_40 : decode b_Reader_readStripe 40 = .ok (.isub, 1) := by decide +kernel
theorem d_Reader_readStripe_41 : decode b_Reader_readStripe 41 = .ok (.istore 6, 2) := by decide +kernel
theorem d_Reader_readStripe_43 : decode b_Reader_readStripe 43 = .ok (.iload 5, 2) := by decide +kernel
theorem d_Reader_readStripe_45 : decode b_Reader_readStripe 45 = .ok (.sipush 175, 3) := by decide +kernel
theorem d_Reader_readStripe_48 : decode b_Reader_readStripe 48 = .ok (.if_icmp .ne 26, 3) := by decide +kernel
theorem d_Reader_readStripe_51 : decode b_Reader_readStripe 51 = .ok (.aload_n 0, 1) := by decide +kernel
theorem d_Reader_readStripe_52 : decode b_Reader_readStripe 52 = .ok (.iload_n 1, 1) := by decide +kernel
theorem d_Reader_readStripe_53 : decode b_Reader_readStripe 53 = .ok (.invokevirtual 73, 3) := by decide +kernel
theorem d_Reader_readStripe_56 : decode b_Reader_readStripe 56 = .ok (.ifCond .ne 12, 3) := by decide +kernel
theorem d_Reader_readStripe_59 : decode b_Reader_readStripe 59 = .ok (.aload_n 0, 1) := by decide +kernel
theorem d_Reader_readStripe_60 : decode b_Reader_readStripe 60 = .ok (.iload 4, 2) := by decide +kernel
theorem d_Reader_readStripe_62 : decode b_Reader_readStripe 62 = .ok (.invokevirtual 52, 3) := by decide +kernel
theorem d_Reader_readStripe_65 : decode b_Reader_readStripe 65 = .ok (.ifCond .eq 7, 3) := by decide +kernel
theorem d_Reader_readStripe_68 : decode b_Reader_readStripe 68 = .ok (.iconst 1, 1) := by decide +kernel
theorem d_Reader_readStripe_69 : decode b_Reader_readStripe 69 = .ok (.goto 4, 3) := by decide +kernel
theorem d_Reader_readStripe_72 : decode b_Reader_readStripe 72 = .ok (.iconst 0, 1) := by decide +kernel
theorem d_Reader_readStripe_73 : decode b_Reader_readStripe 73 = .ok (.ireturn, 1) := by decide +kernel
theorem d_Reader_readStripe_74 : decode b_Reader_readStripe 74 = .ok (.iload 6, 2) := by decide +kernel
theorem d_Reader_readStripe_76 : decode b_Reader_readStripe 76 = .ok (.iload_n 2, 1) := by decide +kernel
theorem d_Reader_readStripe_77 : decode b_Reader_readStripe 77 = .ok (.if_icmp .le 13, 3) := by decide +kernel
theorem d_Reader_readStripe_80 : decode b_Reader_readStripe 80 = .ok (.aload_n 0, 1) := by decide +kernel
theorem d_Reader_readStripe_81 : decode b_Reader_readStripe 81 = .ok (.iload_n 1, 1) := by decide +kernel
theorem d_Reader_readStripe_82 : decode b_Reader_readStripe 82 = .ok (.iload 6, 2) := by decide +kernel
theorem d_Reader_readStripe_84 : decode b_Reader_readStripe 84 = .ok (.invokevirtual 76, 3) := by decide +kernel
theorem d_Reader_readStripe_87 : decode b_Reader_readStripe 87 = .ok (.ifCond .ne 10, 3) := by decide +kernel
theorem d_Reader_readStripe_90 : decode b_Reader_readStripe 90 = .ok (.aload_n 0, 1) := by decide +kernel
theorem d_Reader_readStripe_91 : decode b_Reader_readStripe 91 = .ok (.iload 4, 2) := by decide +kernel
theorem d_Reader_readStripe_93 : decode b_Reader_readStripe 93 = .ok (.invokevirtual 52, 3) := by decide +kernel
theorem d_Reader_readStripe_96 : decode b_Reader_readStripe 96 = .ok (.ireturn, 1) := by decide +kernel
theorem d_Reader_readStripe_97 : decode b_Reader_readStripe 97 = .ok (.aload_n 0, 1) := by decide +kernel
theorem d_Reader_readStripe_98 : decode b_Reader_readStripe 98 = .ok (.iload_n 1, 1) := by decide +kernel
theorem d_Reader_readStripe_99 : decode b_Reader_readStripe 99 = .ok (.iload 6, 2) := by decide +kernel
theorem d_Reader_readStripe_101 : decode b_Reader_readStripe 101 = .ok (.invokevirtual 80, 3) := by decide +kernel
theorem d_Reader_readStripe_104 : decode b_Reader_readStripe 104 = .ok (.ifCond .ne 5, 3) := by decide +kernel
theorem d_Reader_readStripe_107 : decode b_Reader_readStripe 107 = .ok (.iconst 0, 1) := by decide +kernel
theorem d_Reader_readStripe_108 : decode b_Reader_readStripe 108 = .ok (.ireturn, 1) := by decide +kernel
theorem d_Reader_readStripe_109 : decode b_Reader_readStripe 109 = .ok (.iload 6, 2) := by decide +kernel
theorem d_Reader_readStripe_111 : decode b_Reader_readStripe 111 = .ok (.istore_n 2, 1) := by decide +kernel
theorem d_Reader_readStripe_112 : decode b_Reader_readStripe 112 = .ok (.iinc 3 1, 3) := by decide +kernel
theorem d_Reader_readStripe_115 : decode b_Reader_readStripe 115 = .ok (.goto (-111), 3) := by decide +kernel
theorem d_Reader_readStripe_118 : decode b_Reader_readStripe 118 = .ok (.aload_n 0, 1) := by decide +kernel
theorem d_Reader_readStripe_119 : decode b_Reader_readStripe 119 = .ok (.aload_n 0, 1) := by decide +kernel
theorem d_Reader_readStripe_120 : decode b_Reader_readStripe 120 = .ok (.getfield 26, 3) := by decide +kernel
theorem d_Reader_readStripe_123 : decode b_Reader_readStripe 123 = .ok (.invokevirtual 52, 3) := by decide +kernel
theorem d_Reader_readStripe_126 : decode b_Reader_readStripe 126 = .ok (.ireturn, 1) := by decide +kernel
abbrev b_Reader_readHead : ByteArray := prog_5_method_5_code
def y_Reader_readHead : MethodName := ⟨"MaskLayers$Reader", "readHead", "()Z"⟩
theorem d_Reader_readHead_0 : decode b_Reader_readHead 0 = .ok (.iconst 0, 1) := by decide +kernel
theorem d_Reader_readHead_1 : decode b_Reader_readHead 1 = .ok (.istore_n 1, 1) := by decide +kernel
theorem d_Reader_readHead_2 : decode b_Reader_readHead 2 = .ok (.iload_n 1, 1) := by decide +kernel
theorem d_Reader_readHead_3 : decode b_Reader_readHead 3 = .ok (.aload_n 0, 1) := by decide +kernel
theorem d_Reader_readHead_4 : decode b_Reader_readHead 4 = .ok (.getfield 23, 3) := by decide +kernel
theorem d_Reader_readHead_7 : decode b_Reader_readHead 7 = .ok (.arraylength, 1) := by decide +kernel
theorem d_Reader_readHead_8 : decode b_Reader_readHead 8 = .ok (.if_icmp .ge 41, 3) := by decide +kernel
theorem d_Reader_readHead_11 : decode b_Reader_readHead 11 = .ok (.aload_n 0, 1) := by decide +kernel
theorem d_Reader_readHead_12 : decode b_Reader_readHead 12 = .ok (.getfield 23, 3) := by decide +kernel
theorem d_Reader_readHead_15 : decode b_Reader_readHead 15 = .ok (.iload_n 1, 1) := by decide +kernel
theorem d_Reader_readHead_16 : decode b_Reader_readHead 16 = .ok (.aload_n 0, 1) := by decide +kernel
theorem d_Reader_readHead_17 : decode b_Reader_readHead 17 = .ok (.getstatic 19, 3) := by decide +kernel
theorem d_Reader_readHead_20 : decode b_Reader_readHead 20 = .ok (.iload_n 1, 1) := by decide +kernel
theorem d_Reader_readHead_21 : decode b_Reader_readHead 21 = .ok (.iaload, 1) := by decide +kernel
theorem d_Reader_readHead_22 : decode b_Reader_readHead 22 = .ok (.getstatic 62, 3) := by decide +kernel
theorem d_Reader_readHead_25 : decode b_Reader_readHead 25 = .ok (.iload_n 1, 1) := by decide +kernel
