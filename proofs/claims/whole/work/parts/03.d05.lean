theorem d_Writer_writeAll_24 : decode b_Writer_writeAll 24 = .ok (.iconst 0, 1) := by decide +kernel
theorem d_Writer_writeAll_25 : decode b_Writer_writeAll 25 = .ok (.istore_n 2, 1) := by decide +kernel
theorem d_Writer_writeAll_26 : decode b_Writer_writeAll 26 = .ok (.iload_n 2, 1) := by decide +kernel
theorem d_Writer_writeAll_27 : decode b_Writer_writeAll 27 = .ok (.iconst 3, 1) := by decide +kernel
theorem d_Writer_writeAll_28 : decode b_Writer_writeAll 28 = .ok (.if_icmp .gt 27, 3) := by decide +kernel
theorem d_Writer_writeAll_31 : decode b_Writer_writeAll 31 = .ok (.aload_n 0, 1) := by decide +kernel
theorem d_Writer_writeAll_32 : decode b_Writer_writeAll 32 = .ok (.getfield 9, 3) := by decide +kernel
theorem d_Writer_writeAll_35 : decode b_Writer_writeAll 35 = .ok (.iload_n 1, 1) := by decide +kernel
theorem d_Writer_writeAll_36 : decode b_Writer_writeAll 36 = .ok (.iload_n 2, 1) := by decide +kernel
theorem d_Writer_writeAll_37 : decode b_Writer_writeAll 37 = .ok (.invokevirtual 33, 3) := by decide +kernel
theorem d_Writer_writeAll_40 : decode b_Writer_writeAll 40 = .ok (.ifCond .eq 9, 3) := by decide +kernel
theorem d_Writer_writeAll_43 : decode b_Writer_writeAll 43 = .ok (.aload_n 0, 1) := by decide +kernel
theorem d_Writer_writeAll_44 : decode b_Writer_writeAll 44 = .ok (.iload_n 1, 1) := by decide +kernel
theorem d_Writer_writeAll_45 : decode b_Writer_writeAll 45 = .ok (.iload_n 2, 1) := by decide +kernel
theorem d_Writer_writeAll_46 : decode b_Writer_writeAll 46 = .ok (.invokevirtual 37, 3) := by decide +kernel
theorem d_Writer_writeAll_49 : decode b_Writer_writeAll 49 = .ok (.iinc 2 1, 3) := by decide +kernel
theorem d_Writer_writeAll_52 : decode b_Writer_writeAll 52 = .ok (.goto (-26), 3) := by decide +kernel
theorem d_Writer_writeAll_55 : decode b_Writer_writeAll 55 = .ok (.aload_n 0, 1) := by decide +kernel
theorem d_Writer_writeAll_56 : decode b_Writer_writeAll 56 = .ok (.getfield 15, 3) := by decide +kernel
theorem d_Writer_writeAll_59 : decode b_Writer_writeAll 59 = .ok (.sipush 175, 3) := by decide +kernel
theorem d_Writer_writeAll_62 : decode b_Writer_writeAll 62 = .ok (.invokevirtual 41, 3) := by decide +kernel
theorem d_Writer_writeAll_65 : decode b_Writer_writeAll 65 = .ok (.iinc 1 1, 3) := by decide +kernel
theorem d_Writer_writeAll_68 : decode b_Writer_writeAll 68 = .ok (.goto (-55), 3) := by decide +kernel
theorem d_Writer_writeAll_71 : decode b_Writer_writeAll 71 = .ok (.aload_n 0, 1) := by decide +kernel
theorem d_Writer_writeAll_72 : decode b_Writer_writeAll 72 = .ok (.getfield 15, 3) := by decide +kernel
theorem d_Writer_writeAll_75 : decode b_Writer_writeAll 75 = .ok (.getfield 45, 3) := by decide +kernel
theorem d_Writer_writeAll_78 : decode b_Writer_writeAll 78 = .ok (.ireturn, 1) := by decide +kernel
abbrev b_Arrays_copyOf : ByteArray := prog_20_method_123_code
def y_Arrays_copyOf : MethodName := ⟨"java/util/Arrays", "copyOf", "([II)[I"⟩
theorem d_Arrays_copyOf_0 : decode b_Arrays_copyOf 0 = .ok (.iload_n 1, 1) := by decide +kernel
theorem d_Arrays_copyOf_1 : decode b_Arrays_copyOf 1 = .ok (.aload_n 0, 1) := by decide +kernel
theorem d_Arrays_copyOf_2 : decode b_Arrays_copyOf 2 = .ok (.arraylength, 1) := by decide +kernel
theorem d_Arrays_copyOf_3 : decode b_Arrays_copyOf 3 = .ok (.if_icmp .ne 11, 3) := by decide +kernel
theorem d_Arrays_copyOf_6 : decode b_Arrays_copyOf 6 = .ok (.aload_n 0, 1) := by decide +kernel
theorem d_Arrays_copyOf_7 : decode b_Arrays_copyOf 7 = .ok (.invokevirtual 316, 3) := by decide +kernel
theorem d_Arrays_copyOf_10 : decode b_Arrays_copyOf 10 = .ok (.checkcast 317, 3) := by decide +kernel
theorem d_Arrays_copyOf_13 : decode b_Arrays_copyOf 13 = .ok (.areturn, 1) := by decide +kernel
theorem d_Arrays_copyOf_14 : decode b_Arrays_copyOf 14 = .ok (.iload_n 1, 1) := by decide +kernel
theorem d_Arrays_copyOf_15 : decode b_Arrays_copyOf 15 = .ok (.newarray .int, 2) := by decide +kernel
theorem d_Arrays_copyOf_17 : decode b_Arrays_copyOf 17 = .ok (.astore_n 2, 1) := by decide +kernel
theorem d_Arrays_copyOf_18 : decode b_Arrays_copyOf 18 = .ok (.aload_n 0, 1) := by decide +kernel
theorem d_Arrays_copyOf_19 : decode b_Arrays_copyOf 19 = .ok (.iconst 0, 1) := by decide +kernel
theorem d_Arrays_copyOf_20 : decode b_Arrays_copyOf 20 = .ok (.aload_n 2, 1) := by decide +kernel
theorem d_Arrays_copyOf_21 : decode b_Arrays_copyOf 21 = .ok (.iconst 0, 1) := by decide +kernel
theorem d_Arrays_copyOf_22 : decode b_Arrays_copyOf 22 = .ok (.aload_n 0, 1) := by decide +kernel
theorem d_Arrays_copyOf_23 : decode b_Arrays_copyOf 23 = .ok (.arraylength, 1) := by decide +kernel
theorem d_Arrays_copyOf_24 : decode b_Arrays_copyOf 24 = .ok (.iload_n 1, 1) := by decide +kernel
theorem d_Arrays_copyOf_25 : decode b_Arrays_copyOf 25 = .ok (.invokestatic 304, 3) := by decide +kernel
theorem d_Arrays_copyOf_28 : decode b_Arrays_copyOf 28 = .ok (.invokestatic 150, 3) := by decide +kernel
theorem d_Arrays_copyOf_31 : decode b_Arrays_copyOf 31 = .ok (.aload_n 2, 1) := by decide +kernel
theorem d_Arrays_copyOf_32 : decode b_Arrays_copyOf 32 = .ok (.areturn, 1) := by decide +kernel
