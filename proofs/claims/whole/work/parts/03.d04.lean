theorem d_Reader_readHead_26 : decode b_Reader_readHead 26 = .ok (.iaload, 1) := by decide +kernel
theorem d_Reader_readHead_27 : decode b_Reader_readHead 27 = .ok (.invokevirtual 65, 3) := by decide +kernel
theorem d_Reader_readHead_30 : decode b_Reader_readHead 30 = .ok (.iastore, 1) := by decide +kernel
theorem d_Reader_readHead_31 : decode b_Reader_readHead 31 = .ok (.aload_n 0, 1) := by decide +kernel
theorem d_Reader_readHead_32 : decode b_Reader_readHead 32 = .ok (.getfield 23, 3) := by decide +kernel
theorem d_Reader_readHead_35 : decode b_Reader_readHead 35 = .ok (.iload_n 1, 1) := by decide +kernel
theorem d_Reader_readHead_36 : decode b_Reader_readHead 36 = .ok (.iaload, 1) := by decide +kernel
theorem d_Reader_readHead_37 : decode b_Reader_readHead 37 = .ok (.iconst (-1), 1) := by decide +kernel
theorem d_Reader_readHead_38 : decode b_Reader_readHead 38 = .ok (.if_icmp .ne 5, 3) := by decide +kernel
theorem d_Reader_readHead_41 : decode b_Reader_readHead 41 = .ok (.iconst 0, 1) := by decide +kernel
theorem d_Reader_readHead_42 : decode b_Reader_readHead 42 = .ok (.ireturn, 1) := by decide +kernel
theorem d_Reader_readHead_43 : decode b_Reader_readHead 43 = .ok (.iinc 1 1, 3) := by decide +kernel
theorem d_Reader_readHead_46 : decode b_Reader_readHead 46 = .ok (.goto (-44), 3) := by decide +kernel
theorem d_Reader_readHead_49 : decode b_Reader_readHead 49 = .ok (.aload_n 0, 1) := by decide +kernel
theorem d_Reader_readHead_50 : decode b_Reader_readHead 50 = .ok (.getfield 15, 3) := by decide +kernel
theorem d_Reader_readHead_53 : decode b_Reader_readHead 53 = .ok (.aload_n 0, 1) := by decide +kernel
theorem d_Reader_readHead_54 : decode b_Reader_readHead 54 = .ok (.getfield 23, 3) := by decide +kernel
theorem d_Reader_readHead_57 : decode b_Reader_readHead 57 = .ok (.iconst 2, 1) := by decide +kernel
theorem d_Reader_readHead_58 : decode b_Reader_readHead 58 = .ok (.iaload, 1) := by decide +kernel
theorem d_Reader_readHead_59 : decode b_Reader_readHead 59 = .ok (.aload_n 0, 1) := by decide +kernel
theorem d_Reader_readHead_60 : decode b_Reader_readHead 60 = .ok (.getfield 23, 3) := by decide +kernel
theorem d_Reader_readHead_63 : decode b_Reader_readHead 63 = .ok (.iconst 3, 1) := by decide +kernel
theorem d_Reader_readHead_64 : decode b_Reader_readHead 64 = .ok (.iaload, 1) := by decide +kernel
theorem d_Reader_readHead_65 : decode b_Reader_readHead 65 = .ok (.aload_n 0, 1) := by decide +kernel
theorem d_Reader_readHead_66 : decode b_Reader_readHead 66 = .ok (.getfield 23, 3) := by decide +kernel
theorem d_Reader_readHead_69 : decode b_Reader_readHead 69 = .ok (.iconst 4, 1) := by decide +kernel
theorem d_Reader_readHead_70 : decode b_Reader_readHead 70 = .ok (.iaload, 1) := by decide +kernel
theorem d_Reader_readHead_71 : decode b_Reader_readHead 71 = .ok (.aload_n 0, 1) := by decide +kernel
theorem d_Reader_readHead_72 : decode b_Reader_readHead 72 = .ok (.getfield 23, 3) := by decide +kernel
theorem d_Reader_readHead_75 : decode b_Reader_readHead 75 = .ok (.iconst 5, 1) := by decide +kernel
theorem d_Reader_readHead_76 : decode b_Reader_readHead 76 = .ok (.iaload, 1) := by decide +kernel
theorem d_Reader_readHead_77 : decode b_Reader_readHead 77 = .ok (.aload_n 0, 1) := by decide +kernel
theorem d_Reader_readHead_78 : decode b_Reader_readHead 78 = .ok (.getfield 23, 3) := by decide +kernel
theorem d_Reader_readHead_81 : decode b_Reader_readHead 81 = .ok (.bipush 6, 2) := by decide +kernel
theorem d_Reader_readHead_83 : decode b_Reader_readHead 83 = .ok (.iaload, 1) := by decide +kernel
theorem d_Reader_readHead_84 : decode b_Reader_readHead 84 = .ok (.invokevirtual 69, 3) := by decide +kernel
theorem d_Reader_readHead_87 : decode b_Reader_readHead 87 = .ok (.iconst 1, 1) := by decide +kernel
theorem d_Reader_readHead_88 : decode b_Reader_readHead 88 = .ok (.ireturn, 1) := by decide +kernel
abbrev b_Reader_readAll : ByteArray := prog_5_method_2_code
def y_Reader_readAll : MethodName := ⟨"MaskLayers$Reader", "readAll", "()I"⟩
theorem d_Reader_readAll_0 : decode b_Reader_readAll 0 = .ok (.aload_n 0, 1) := by decide +kernel
theorem d_Reader_readAll_1 : decode b_Reader_readAll 1 = .ok (.iconst 0, 1) := by decide +kernel
theorem d_Reader_readAll_2 : decode b_Reader_readAll 2 = .ok (.putfield 26, 3) := by decide +kernel
theorem d_Reader_readAll_5 : decode b_Reader_readAll 5 = .ok (.aload_n 0, 1) := by decide +kernel
theorem d_Reader_readAll_6 : decode b_Reader_readAll 6 = .ok (.getfield 15, 3) := by decide +kernel
theorem d_Reader_readAll_9 : decode b_Reader_readAll 9 = .ok (.invokevirtual 30, 3) := by decide +kernel
theorem d_Reader_readAll_12 : decode b_Reader_readAll 12 = .ok (.aload_n 0, 1) := by decide +kernel
theorem d_Reader_readAll_13 : decode b_Reader_readAll 13 = .ok (.invokevirtual 35, 3) := by decide +kernel
theorem d_Reader_readAll_16 : decode b_Reader_readAll 16 = .ok (.istore_n 1, 1) := by decide +kernel
theorem d_Reader_readAll_17 : decode b_Reader_readAll 17 = .ok (.iconst 0, 1) := by decide +kernel
theorem d_Reader_readAll_18 : decode b_Reader_readAll 18 = .ok (.istore_n 2, 1) := by decide +kernel
theorem d_Reader_readAll_19 : decode b_Reader_readAll 19 = .ok (.iload_n 1, 1) := by decide +kernel
theorem d_Reader_readAll_20 : decode b_Reader_readAll 20 = .ok (.ifCond .eq 26, 3) := by decide +kernel
theorem d_Reader_readAll_23 : decode b_Reader_readAll 23 = .ok (.iload_n 2, 1) := by decide +kernel
theorem d_Reader_readAll_24 : decode b_Reader_readAll 24 = .ok (.aload_n 0, 1) := by decide +kernel
theorem d_Reader_readAll_25 : decode b_Reader_readAll 25 = .ok (.getfield 15, 3) := by decide +kernel
theorem d_Reader_readAll_28 : decode b_Reader_readAll 28 = .ok (.invokevirtual 39, 3) := by decide +kernel
theorem d_Reader_readAll_31 : decode b_Reader_readAll 31 = .ok (.if_icmp .ge 15, 3) := by decide +kernel
theorem d_Reader_readAll_34 : decode b_Reader_readAll 34 = .ok (.aload_n 0, 1) := by decide +kernel
theorem d_Reader_readAll_35 : decode b_Reader_readAll 35 = .ok (.iload_n 2, 1) := by decide +kernel
theorem d_Reader_readAll_36 : decode b_Reader_readAll 36 = .ok (.invokevirtual 43, 3) := by decide +kernel
theorem d_Reader_readAll_39 : decode b_Reader_readAll 39 = .ok (.istore_n 1, 1) := by decide +kernel
theorem d_Reader_readAll_40 : decode b_Reader_readAll 40 = .ok (.iinc 2 1, 3) := by decide +kernel
theorem d_Reader_readAll_43 : decode b_Reader_readAll 43 = .ok (.goto (-24), 3) := by decide +kernel
theorem d_Reader_readAll_46 : decode b_Reader_readAll 46 = .ok (.iload_n 1, 1) := by decide +kernel
theorem d_Reader_readAll_47 : decode b_Reader_readAll 47 = .ok (.ifCond .eq 26, 3) := by decide +kernel
theorem d_Reader_readAll_50 : decode b_Reader_readAll 50 = .ok (.aload_n 0, 1) := by decide +kernel
theorem d_Reader_readAll_51 : decode b_Reader_readAll 51 = .ok (.getfield 26, 3) := by decide +kernel
theorem d_Reader_readAll_54 : decode b_Reader_readAll 54 = .ok (.aload_n 0, 1) := by decide +kernel
theorem d_Reader_readAll_55 : decode b_Reader_readAll 55 = .ok (.getfield 9, 3) := by decide +kernel
theorem d_Reader_readAll_58 : decode b_Reader_readAll 58 = .ok (.getfield 47, 3) := by decide +kernel
theorem d_Reader_readAll_61 : decode b_Reader_readAll 61 = .ok (.if_icmp .ge 12, 3) := by decide +kernel
theorem d_Reader_readAll_64 : decode b_Reader_readAll 64 = .ok (.aload_n 0, 1) := by decide +kernel
theorem d_Reader_readAll_65 : decode b_Reader_readAll 65 = .ok (.aload_n 0, 1) := by decide +kernel
theorem d_Reader_readAll_66 : decode b_Reader_readAll 66 = .ok (.getfield 26, 3) := by decide +kernel
theorem d_Reader_readAll_69 : decode b_Reader_readAll 69 = .ok (.invokevirtual 52, 3) := by decide +kernel
theorem d_Reader_readAll_72 : decode b_Reader_readAll 72 = .ok (.istore_n 1, 1) := by decide +kernel
theorem d_Reader_readAll_73 : decode b_Reader_readAll 73 = .ok (.iload_n 1, 1) := by decide +kernel
theorem d_Reader_readAll_74 : decode b_Reader_readAll 74 = .ok (.ifCond .eq 11, 3) := by decide +kernel
theorem d_Reader_readAll_77 : decode b_Reader_readAll 77 = .ok (.aload_n 0, 1) := by decide +kernel
theorem d_Reader_readAll_78 : decode b_Reader_readAll 78 = .ok (.getfield 15, 3) := by decide +kernel
theorem d_Reader_readAll_81 : decode b_Reader_readAll 81 = .ok (.getfield 55, 3) := by decide +kernel
theorem d_Reader_readAll_84 : decode b_Reader_readAll 84 = .ok (.ireturn, 1) := by decide +kernel
theorem d_Reader_readAll_85 : decode b_Reader_readAll 85 = .ok (.aload_n 0, 1) := by decide +kernel
theorem d_Reader_readAll_86 : decode b_Reader_readAll 86 = .ok (.getfield 15, 3) := by decide +kernel
theorem d_Reader_readAll_89 : decode b_Reader_readAll 89 = .ok (.invokevirtual 30, 3) := by decide +kernel
theorem d_Reader_readAll_92 : decode b_Reader_readAll 92 = .ok (.iconst (-1), 1) := by decide +kernel
theorem d_Reader_readAll_93 : decode b_Reader_readAll 93 = .ok (.aload_n 0, 1) := by decide +kernel
theorem d_Reader_readAll_94 : decode b_Reader_readAll 94 = .ok (.getfield 56, 3) := by decide +kernel
theorem d_Reader_readAll_97 : decode b_Reader_readAll 97 = .ok (.isub, 1) := by decide +kernel
theorem d_Reader_readAll_98 : decode b_Reader_readAll 98 = .ok (.ireturn, 1) := by decide +kernel
