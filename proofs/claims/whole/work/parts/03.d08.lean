theorem d_Mo_layMade_5 : decode b_Mo_layMade 5 = .ok (.putfield 78, 3) := by decide +kernel
theorem d_Mo_layMade_8 : decode b_Mo_layMade 8 = .ok (.aload_n 0, 1) := by decide +kernel
theorem d_Mo_layMade_9 : decode b_Mo_layMade 9 = .ok (.aload_n 0, 1) := by decide +kernel
theorem d_Mo_layMade_10 : decode b_Mo_layMade 10 = .ok (.getfield 131, 3) := by decide +kernel
theorem d_Mo_layMade_13 : decode b_Mo_layMade 13 = .ok (.putfield 75, 3) := by decide +kernel
theorem d_Mo_layMade_16 : decode b_Mo_layMade 16 = .ok (.aload_n 0, 1) := by decide +kernel
theorem d_Mo_layMade_17 : decode b_Mo_layMade 17 = .ok (.aload_n 0, 1) := by decide +kernel
theorem d_Mo_layMade_18 : decode b_Mo_layMade 18 = .ok (.getfield 45, 3) := by decide +kernel
theorem d_Mo_layMade_21 : decode b_Mo_layMade 21 = .ok (.aload_n 0, 1) := by decide +kernel
theorem d_Mo_layMade_22 : decode b_Mo_layMade 22 = .ok (.getfield 48, 3) := by decide +kernel
theorem d_Mo_layMade_25 : decode b_Mo_layMade 25 = .ok (.aload_n 0, 1) := by decide +kernel
theorem d_Mo_layMade_26 : decode b_Mo_layMade 26 = .ok (.getfield 107, 3) := by decide +kernel
theorem d_Mo_layMade_29 : decode b_Mo_layMade 29 = .ok (.iload_n 1, 1) := by decide +kernel
theorem d_Mo_layMade_30 : decode b_Mo_layMade 30 = .ok (.aload_n 0, 1) := by decide +kernel
theorem d_Mo_layMade_31 : decode b_Mo_layMade 31 = .ok (.getfield 107, 3) := by decide +kernel
theorem d_Mo_layMade_34 : decode b_Mo_layMade 34 = .ok (.idiv, 1) := by decide +kernel
theorem d_Mo_layMade_35 : decode b_Mo_layMade 35 = .ok (.invokevirtual 110, 3) := by decide +kernel
theorem d_Mo_layMade_38 : decode b_Mo_layMade 38 = .ok (.iload_n 1, 1) := by decide +kernel
theorem d_Mo_layMade_39 : decode b_Mo_layMade 39 = .ok (.aload_n 0, 1) := by decide +kernel
theorem d_Mo_layMade_40 : decode b_Mo_layMade 40 = .ok (.getfield 107, 3) := by decide +kernel
theorem d_Mo_layMade_43 : decode b_Mo_layMade 43 = .ok (.idiv, 1) := by decide +kernel
theorem d_Mo_layMade_44 : decode b_Mo_layMade 44 = .ok (.ireturn, 1) := by decide +kernel
abbrev b_Mo_layer : ByteArray := prog_8_method_26_code
def y_Mo_layer : MethodName := ⟨"MaskLayersModel", "layer", "(III)I"⟩
theorem d_Mo_layer_0 : decode b_Mo_layer 0 = .ok (.aload_n 0, 1) := by decide +kernel
theorem d_Mo_layer_1 : decode b_Mo_layer 1 = .ok (.aload_n 0, 1) := by decide +kernel
theorem d_Mo_layer_2 : decode b_Mo_layer 2 = .ok (.iload_n 2, 1) := by decide +kernel
theorem d_Mo_layer_3 : decode b_Mo_layer 3 = .ok (.iload_n 3, 1) := by decide +kernel
theorem d_Mo_layer_4 : decode b_Mo_layer 4 = .ok (.invokevirtual 141, 3) := by decide +kernel
theorem d_Mo_layer_7 : decode b_Mo_layer 7 = .ok (.ifCond .le 12, 3) := by decide +kernel
theorem d_Mo_layer_10 : decode b_Mo_layer 10 = .ok (.aload_n 0, 1) := by decide +kernel
theorem d_Mo_layer_11 : decode b_Mo_layer 11 = .ok (.iload_n 2, 1) := by decide +kernel
theorem d_Mo_layer_12 : decode b_Mo_layer 12 = .ok (.iload_n 3, 1) := by decide +kernel
theorem d_Mo_layer_13 : decode b_Mo_layer 13 = .ok (.invokevirtual 141, 3) := by decide +kernel
theorem d_Mo_layer_16 : decode b_Mo_layer 16 = .ok (.goto 17, 3) := by decide +kernel
theorem d_Mo_layer_19 : decode b_Mo_layer 19 = .ok (.iload_n 1, 1) := by decide +kernel
theorem d_Mo_layer_20 : decode b_Mo_layer 20 = .ok (.ifCond .lt 8, 3) := by decide +kernel
theorem d_Mo_layer_23 : decode b_Mo_layer 23 = .ok (.iload_n 1, 1) := by decide +kernel
theorem d_Mo_layer_24 : decode b_Mo_layer 24 = .ok (.iconst 3, 1) := by decide +kernel
theorem d_Mo_layer_25 : decode b_Mo_layer 25 = .ok (.if_icmp .le 7, 3) := by decide +kernel
theorem d_Mo_layer_28 : decode b_Mo_layer 28 = .ok (.iconst 3, 1) := by decide +kernel
theorem d_Mo_layer_29 : decode b_Mo_layer 29 = .ok (.goto 4, 3) := by decide +kernel
theorem d_Mo_layer_32 : decode b_Mo_layer 32 = .ok (.iconst 0, 1) := by decide +kernel
theorem d_Mo_layer_33 : decode b_Mo_layer 33 = .ok (.putfield 51, 3) := by decide +kernel
theorem d_Mo_layer_36 : decode b_Mo_layer 36 = .ok (.aload_n 0, 1) := by decide +kernel
theorem d_Mo_layer_37 : decode b_Mo_layer 37 = .ok (.getfield 51, 3) := by decide +kernel
theorem d_Mo_layer_40 : decode b_Mo_layer 40 = .ok (.ifCond .le 5, 3) := by decide +kernel
theorem d_Mo_layer_43 : decode b_Mo_layer 43 = .ok (.iconst 0, 1) := by decide +kernel
theorem d_Mo_layer_44 : decode b_Mo_layer 44 = .ok (.ireturn, 1) := by decide +kernel
theorem d_Mo_layer_45 : decode b_Mo_layer 45 = .ok (.aload_n 0, 1) := by decide +kernel
theorem d_Mo_layer_46 : decode b_Mo_layer 46 = .ok (.iload_n 3, 1) := by decide +kernel
theorem d_Mo_layer_47 : decode b_Mo_layer 47 = .ok (.invokevirtual 144, 3) := by decide +kernel
theorem d_Mo_layer_50 : decode b_Mo_layer 50 = .ok (.istore 4, 2) := by decide +kernel
theorem d_Mo_layer_52 : decode b_Mo_layer 52 = .ok (.aload_n 0, 1) := by decide +kernel
theorem d_Mo_layer_53 : decode b_Mo_layer 53 = .ok (.getfield 27, 3) := by decide +kernel
theorem d_Mo_layer_56 : decode b_Mo_layer 56 = .ok (.iconst 4, 1) := by decide +kernel
theorem d_Mo_layer_57 : decode b_Mo_layer 57 = .ok (.iload 4, 2) := by decide +kernel
theorem d_Mo_layer_59 : decode b_Mo_layer 59 = .ok (.imul, 1) := by decide +kernel
theorem d_Mo_layer_60 : decode b_Mo_layer 60 = .ok (.iload_n 1, 1) := by decide +kernel
theorem d_Mo_layer_61 : decode b_Mo_layer 61 = .ok (.iadd, 1) := by decide +kernel
theorem d_Mo_layer_62 : decode b_Mo_layer 62 = .ok (.baload, 1) := by decide +kernel
theorem d_Mo_layer_63 : decode b_Mo_layer 63 = .ok (.ifCond .eq 18, 3) := by decide +kernel
theorem d_Mo_layer_66 : decode b_Mo_layer 66 = .ok (.aload_n 0, 1) := by decide +kernel
theorem d_Mo_layer_67 : decode b_Mo_layer 67 = .ok (.getfield 21, 3) := by decide +kernel
theorem d_Mo_layer_70 : decode b_Mo_layer 70 = .ok (.aload_n 0, 1) := by decide +kernel
theorem d_Mo_layer_71 : decode b_Mo_layer 71 = .ok (.iload_n 1, 1) := by decide +kernel
theorem d_Mo_layer_72 : decode b_Mo_layer 72 = .ok (.iload_n 2, 1) := by decide +kernel
theorem d_Mo_layer_73 : decode b_Mo_layer 73 = .ok (.iload_n 3, 1) := by decide +kernel
theorem d_Mo_layer_74 : decode b_Mo_layer 74 = .ok (.invokevirtual 104, 3) := by decide +kernel
theorem d_Mo_layer_77 : decode b_Mo_layer 77 = .ok (.iaload, 1) := by decide +kernel
theorem d_Mo_layer_78 : decode b_Mo_layer 78 = .ok (.goto 4, 3) := by decide +kernel
theorem d_Mo_layer_81 : decode b_Mo_layer 81 = .ok (.iconst (-1), 1) := by decide +kernel
theorem d_Mo_layer_82 : decode b_Mo_layer 82 = .ok (.ireturn, 1) := by decide +kernel
abbrev b_Mo_filled : ByteArray := prog_8_method_27_code
def y_Mo_filled : MethodName := ⟨"MaskLayersModel", "filled", "(III)Z"⟩
theorem d_Mo_filled_0 : decode b_Mo_filled 0 = .ok (.aload_n 0, 1) := by decide +kernel
theorem d_Mo_filled_1 : decode b_Mo_filled 1 = .ok (.aload_n 0, 1) := by decide +kernel
theorem d_Mo_filled_2 : decode b_Mo_filled 2 = .ok (.iload_n 2, 1) := by decide +kernel
theorem d_Mo_filled_3 : decode b_Mo_filled 3 = .ok (.iload_n 3, 1) := by decide +kernel
theorem d_Mo_filled_4 : decode b_Mo_filled 4 = .ok (.invokevirtual 141, 3) := by decide +kernel
theorem d_Mo_filled_7 : decode b_Mo_filled 7 = .ok (.ifCond .le 12, 3) := by decide +kernel
theorem d_Mo_filled_10 : decode b_Mo_filled 10 = .ok (.aload_n 0, 1) := by decide +kernel
theorem d_Mo_filled_11 : decode b_Mo_filled 11 = .ok (.iload_n 2, 1) := by decide +kernel
theorem d_Mo_filled_12 : decode b_Mo_filled 12 = .ok (.iload_n 3, 1) := by decide +kernel
theorem d_Mo_filled_13 : decode b_Mo_filled 13 = .ok (.invokevirtual 141, 3) := by decide +kernel
theorem d_Mo_filled_16 : decode b_Mo_filled 16 = .ok (.goto 17, 3) := by decide +kernel
theorem d_Mo_filled_19 : decode b_Mo_filled 19 = .ok (.iload_n 1, 1) := by decide +kernel
theorem d_Mo_filled_20 : decode b_Mo_filled 20 = .ok (.ifCond .eq 12, 3) := by decide +kernel
theorem d_Mo_filled_23 : decode b_Mo_filled 23 = .ok (.iload_n 1, 1) := by decide +kernel
theorem d_Mo_filled_24 : decode b_Mo_filled 24 = .ok (.iconst 2, 1) := by decide +kernel
theorem d_Mo_filled_25 : decode b_Mo_filled 25 = .ok (.if_icmp .eq 7, 3) := by decide +kernel
theorem d_Mo_filled_28 : decode b_Mo_filled 28 = .ok (.iconst 3, 1) := by decide +kernel
theorem d_Mo_filled_29 : decode b_Mo_filled 29 = .ok (.goto 4, 3) := by decide +kernel
theorem d_Mo_filled_32 : decode b_Mo_filled 32 = .ok (.iconst 0, 1) := by decide +kernel
theorem d_Mo_filled_33 : decode b_Mo_filled 33 = .ok (.putfield 51, 3) := by decide +kernel
theorem d_Mo_filled_36 : decode b_Mo_filled 36 = .ok (.aload_n 0, 1) := by decide +kernel
theorem d_Mo_filled_37 : decode b_Mo_filled 37 = .ok (.getfield 51, 3) := by decide +kernel
theorem d_Mo_filled_40 : decode b_Mo_filled 40 = .ok (.ifCond .le 5, 3) := by decide +kernel
theorem d_Mo_filled_43 : decode b_Mo_filled 43 = .ok (.iconst 0, 1) := by decide +kernel
theorem d_Mo_filled_44 : decode b_Mo_filled 44 = .ok (.ireturn, 1) := by decide +kernel
theorem d_Mo_filled_45 : decode b_Mo_filled 45 = .ok (.aload_n 0, 1) := by decide +kernel
theorem d_Mo_filled_46 : decode b_Mo_filled 46 = .ok (.iload_n 3, 1) := by decide +kernel
theorem d_Mo_filled_47 : decode b_Mo_filled 47 = .ok (.invokevirtual 144, 3) := by decide +kernel
theorem d_Mo_filled_50 : decode b_Mo_filled 50 = .ok (.istore 4, 2) := by decide +kernel
theorem d_Mo_filled_52 : decode b_Mo_filled 52 = .ok (.aload_n 0, 1) := by decide +kernel
theorem d_Mo_filled_53 : decode b_Mo_filled 53 = .ok (.getfield 27, 3) := by decide +kernel
theorem d_Mo_filled_56 : decode b_Mo_filled 56 = .ok (.iconst 4, 1) := by decide +kernel
theorem d_Mo_filled_57 : decode b_Mo_filled 57 = .ok (.iload 4, 2) := by decide +kernel
theorem d_Mo_filled_59 : decode b_Mo_filled 59 = .ok (.imul, 1) := by decide +kernel
theorem d_Mo_filled_60 : decode b_Mo_filled 60 = .ok (.iload_n 1, 1) := by decide +kernel
theorem d_Mo_filled_61 : decode b_Mo_filled 61 = .ok (.iadd, 1) := by decide +kernel
theorem d_Mo_filled_62 : decode b_Mo_filled 62 = .ok (.baload, 1) := by decide +kernel
theorem d_Mo_filled_63 : decode b_Mo_filled 63 = .ok (.ifCond .eq 22, 3) := by decide +kernel
theorem d_Mo_filled_66 : decode b_Mo_filled 66 = .ok (.aload_n 0, 1) := by decide +kernel
theorem d_Mo_filled_67 : decode b_Mo_filled 67 = .ok (.getfield 24, 3) := by decide +kernel
theorem d_Mo_filled_70 : decode b_Mo_filled 70 = .ok (.aload_n 0, 1) := by decide +kernel
theorem d_Mo_filled_71 : decode b_Mo_filled 71 = .ok (.iload_n 1, 1) := by decide +kernel
theorem d_Mo_filled_72 : decode b_Mo_filled 72 = .ok (.iload_n 2, 1) := by decide +kernel
theorem d_Mo_filled_73 : decode b_Mo_filled 73 = .ok (.iload_n 3, 1) := by decide +kernel
theorem d_Mo_filled_74 : decode b_Mo_filled 74 = .ok (.invokevirtual 104, 3) := by decide +kernel
theorem d_Mo_filled_77 : decode b_Mo_filled 77 = .ok (.baload, 1) := by decide +kernel
theorem d_Mo_filled_78 : decode b_Mo_filled 78 = .ok (.ifCond .eq 7, 3) := by decide +kernel
theorem d_Mo_filled_81 : decode b_Mo_filled 81 = .ok (.iconst 1, 1) := by decide +kernel
theorem d_Mo_filled_82 : decode b_Mo_filled 82 = .ok (.goto 4, 3) := by decide +kernel
theorem d_Mo_filled_85 : decode b_Mo_filled 85 = .ok (.iconst 0, 1) := by decide +kernel
theorem d_Mo_filled_86 : decode b_Mo_filled 86 = .ok (.ireturn, 1) := by decide +kernel
abbrev b_Mo_joined : ByteArray := prog_8_method_28_code
def y_Mo_joined : MethodName := ⟨"MaskLayersModel", "joined", "(II)I"⟩
theorem d_Mo_joined_0 : decode b_Mo_joined 0 = .ok (.aload_n 0, 1) := by decide +kernel
theorem d_Mo_joined_1 : decode b_Mo_joined 1 = .ok (.aload_n 0, 1) := by decide +kernel
theorem d_Mo_joined_2 : decode b_Mo_joined 2 = .ok (.iload_n 1, 1) := by decide +kernel
theorem d_Mo_joined_3 : decode b_Mo_joined 3 = .ok (.iload_n 2, 1) := by decide +kernel
theorem d_Mo_joined_4 : decode b_Mo_joined 4 = .ok (.invokevirtual 141, 3) := by decide +kernel
theorem d_Mo_joined_7 : decode b_Mo_joined 7 = .ok (.putfield 51, 3) := by decide +kernel
theorem d_Mo_joined_10 : decode b_Mo_joined 10 = .ok (.aload_n 0, 1) := by decide +kernel
theorem d_Mo_joined_11 : decode b_Mo_joined 11 = .ok (.getfield 51, 3) := by decide +kernel
theorem d_Mo_joined_14 : decode b_Mo_joined 14 = .ok (.ifCond .le 5, 3) := by decide +kernel
theorem d_Mo_joined_17 : decode b_Mo_joined 17 = .ok (.iconst 0, 1) := by decide +kernel
theorem d_Mo_joined_18 : decode b_Mo_joined 18 = .ok (.ireturn, 1) := by decide +kernel
theorem d_Mo_joined_19 : decode b_Mo_joined 19 = .ok (.aload_n 0, 1) := by decide +kernel
theorem d_Mo_joined_20 : decode b_Mo_joined 20 = .ok (.iload_n 2, 1) := by decide +kernel
theorem d_Mo_joined_21 : decode b_Mo_joined 21 = .ok (.invokevirtual 144, 3) := by decide +kernel
theorem d_Mo_joined_24 : decode b_Mo_joined 24 = .ok (.pop, 1) := by decide +kernel
theorem d_Mo_joined_25 : decode b_Mo_joined 25 = .ok (.aload_n 0, 1) := by decide +kernel
theorem d_Mo_joined_26 : decode b_Mo_joined 26 = .ok (.iload_n 1, 1) := by decide +kernel
theorem d_Mo_joined_27 : decode b_Mo_joined 27 = .ok (.iload_n 2, 1) := by decide +kernel
theorem d_Mo_joined_28 : decode b_Mo_joined 28 = .ok (.invokevirtual 118, 3) := by decide +kernel
theorem d_Mo_joined_31 : decode b_Mo_joined 31 = .ok (.ireturn, 1) := by decide +kernel
abbrev b_Mo_out : ByteArray := prog_8_method_29_code
def y_Mo_out : MethodName := ⟨"MaskLayersModel", "out", "(I)V"⟩
theorem d_Mo_out_0 : decode b_Mo_out 0 = .ok (.aload_n 0, 1) := by decide +kernel
theorem d_Mo_out_1 : decode b_Mo_out 1 = .ok (.getfield 30, 3) := by decide +kernel
theorem d_Mo_out_4 : decode b_Mo_out 4 = .ok (.aload_n 0, 1) := by decide +kernel
theorem d_Mo_out_5 : decode b_Mo_out 5 = .ok (.getfield 147, 3) := by decide +kernel
theorem d_Mo_out_8 : decode b_Mo_out 8 = .ok (.iload_n 1, 1) := by decide +kernel
theorem d_Mo_out_9 : decode b_Mo_out 9 = .ok (.iastore, 1) := by decide +kernel
theorem d_Mo_out_10 : decode b_Mo_out 10 = .ok (.aload_n 0, 1) := by decide +kernel
theorem d_Mo_out_11 : decode b_Mo_out 11 = .ok (.dup, 1) := by decide +kernel
theorem d_Mo_out_12 : decode b_Mo_out 12 = .ok (.getfield 147, 3) := by decide +kernel
theorem d_Mo_out_15 : decode b_Mo_out 15 = .ok (.iconst 1, 1) := by decide +kernel
theorem d_Mo_out_16 : decode b_Mo_out 16 = .ok (.iadd, 1) := by decide +kernel
theorem d_Mo_out_17 : decode b_Mo_out 17 = .ok (.putfield 147, 3) := by decide +kernel
theorem d_Mo_out_20 : decode b_Mo_out 20 = .ok (.return_, 1) := by decide +kernel
abbrev b_Mo_outValue : ByteArray := prog_8_method_30_code
def y_Mo_outValue : MethodName := ⟨"MaskLayersModel", "outValue", "(II)V"⟩
theorem d_Mo_outValue_0 : decode b_Mo_outValue 0 = .ok (.iload_n 1, 1) := by decide +kernel
theorem d_Mo_outValue_1 : decode b_Mo_outValue 1 = .ok (.iconst 1, 1) := by decide +kernel
theorem d_Mo_outValue_2 : decode b_Mo_outValue 2 = .ok (.if_icmp .eq 23, 3) := by decide +kernel
theorem d_Mo_outValue_5 : decode b_Mo_outValue 5 = .ok (.aload_n 0, 1) := by decide +kernel
theorem d_Mo_outValue_6 : decode b_Mo_outValue 6 = .ok (.iload_n 2, 1) := by decide +kernel
theorem d_Mo_outValue_7 : decode b_Mo_outValue 7 = .ok (.bipush 16, 2) := by decide +kernel
theorem d_Mo_outValue_9 : decode b_Mo_outValue 9 = .ok (.ishr, 1) := by decide +kernel
theorem d_Mo_outValue_10 : decode b_Mo_outValue 10 = .ok (.invokevirtual 150, 3) := by decide +kernel
theorem d_Mo_outValue_13 : decode b_Mo_outValue 13 = .ok (.aload_n 0, 1) := by decide +kernel
theorem d_Mo_outValue_14 : decode b_Mo_outValue 14 = .ok (.iload_n 2, 1) := by decide +kernel
theorem d_Mo_outValue_15 : decode b_Mo_outValue 15 = .ok (.bipush 8, 2) := by decide +kernel
theorem d_Mo_outValue_17 : decode b_Mo_outValue 17 = .ok (.ishr, 1) := by decide +kernel
theorem d_Mo_outValue_18 : decode b_Mo_outValue 18 = .ok (.sipush 255, 3) := by decide +kernel
theorem d_Mo_outValue_21 : decode b_Mo_outValue 21 = .ok (.iand, 1) := by decide +kernel
theorem d_Mo_outValue_22 : decode b_Mo_outValue 22 = .ok (.invokevirtual 150, 3) := by decide +kernel
theorem d_Mo_outValue_25 : decode b_Mo_outValue 25 = .ok (.aload_n 0, 1) := by decide +kernel
theorem d_Mo_outValue_26 : decode b_Mo_outValue 26 = .ok (.iload_n 2, 1) := by decide +kernel
theorem d_Mo_outValue_27 : decode b_Mo_outValue 27 = .ok (.sipush 255, 3) := by decide +kernel
theorem d_Mo_outValue_30 : decode b_Mo_outValue 30 = .ok (.iand, 1) := by decide +kernel
theorem d_Mo_outValue_31 : decode b_Mo_outValue 31 = .ok (.invokevirtual 150, 3) := by decide +kernel
theorem d_Mo_outValue_34 : decode b_Mo_outValue 34 = .ok (.return_, 1) := by decide +kernel
abbrev b_Mo_outLayer : ByteArray := prog_8_method_33_code
def y_Mo_outLayer : MethodName := ⟨"MaskLayersModel", "outLayer", "(I)V"⟩
theorem d_Mo_outLayer_0 : decode b_Mo_outLayer 0 = .ok (.aload_n 0, 1) := by decide +kernel
theorem d_Mo_outLayer_1 : decode b_Mo_outLayer 1 = .ok (.iload_n 1, 1) := by decide +kernel
theorem d_Mo_outLayer_2 : decode b_Mo_outLayer 2 = .ok (.invokevirtual 94, 3) := by decide +kernel
theorem d_Mo_outLayer_5 : decode b_Mo_outLayer 5 = .ok (.istore_n 2, 1) := by decide +kernel
theorem d_Mo_outLayer_6 : decode b_Mo_outLayer 6 = .ok (.iconst 0, 1) := by decide +kernel
theorem d_Mo_outLayer_7 : decode b_Mo_outLayer 7 = .ok (.istore_n 3, 1) := by decide +kernel
theorem d_Mo_outLayer_8 : decode b_Mo_outLayer 8 = .ok (.iconst 0, 1) := by decide +kernel
theorem d_Mo_outLayer_9 : decode b_Mo_outLayer 9 = .ok (.istore 4, 2) := by decide +kernel
theorem d_Mo_outLayer_11 : decode b_Mo_outLayer 11 = .ok (.iload 4, 2) := by decide +kernel
theorem d_Mo_outLayer_13 : decode b_Mo_outLayer 13 = .ok (.iload_n 2, 1) := by decide +kernel
theorem d_Mo_outLayer_14 : decode b_Mo_outLayer 14 = .ok (.if_icmp .ge 31, 3) := by decide +kernel
theorem d_Mo_outLayer_17 : decode b_Mo_outLayer 17 = .ok (.iload_n 3, 1) := by decide +kernel
theorem d_Mo_outLayer_18 : decode b_Mo_outLayer 18 = .ok (.iload_n 1, 1) := by decide +kernel
theorem d_Mo_outLayer_19 : decode b_Mo_outLayer 19 = .ok (.iconst 1, 1) := by decide +kernel
theorem d_Mo_outLayer_20 : decode b_Mo_outLayer 20 = .ok (.if_icmp .ne 7, 3) := by decide +kernel
theorem d_Mo_outLayer_23 : decode b_Mo_outLayer 23 = .ok (.iconst 2, 1) := by decide +kernel
theorem d_Mo_outLayer_24 : decode b_Mo_outLayer 24 = .ok (.goto 4, 3) := by decide +kernel
theorem d_Mo_outLayer_27 : decode b_Mo_outLayer 27 = .ok (.iconst 4, 1) := by decide +kernel
theorem d_Mo_outLayer_28 : decode b_Mo_outLayer 28 = .ok (.iadd, 1) := by decide +kernel
theorem d_Mo_outLayer_29 : decode b_Mo_outLayer 29 = .ok (.istore_n 3, 1) := by decide +kernel
theorem d_Mo_outLayer_30 : decode b_Mo_outLayer 30 = .ok (.iload 4, 2) := by decide +kernel
theorem d_Mo_outLayer_32 : decode b_Mo_outLayer 32 = .ok (.aload_n 0, 1) := by decide +kernel
theorem d_Mo_outLayer_33 : decode b_Mo_outLayer 33 = .ok (.iload_n 1, 1) := by decide +kernel
theorem d_Mo_outLayer_34 : decode b_Mo_outLayer 34 = .ok (.iload 4, 2) := by decide +kernel
theorem d_Mo_outLayer_36 : decode b_Mo_outLayer 36 = .ok (.invokevirtual 153, 3) := by decide +kernel
theorem d_Mo_outLayer_39 : decode b_Mo_outLayer 39 = .ok (.iadd, 1) := by decide +kernel
theorem d_Mo_outLayer_40 : decode b_Mo_outLayer 40 = .ok (.istore 4, 2) := by decide +kernel
theorem d_Mo_outLayer_42 : decode b_Mo_outLayer 42 = .ok (.goto (-31), 3) := by decide +kernel
theorem d_Mo_outLayer_45 : decode b_Mo_outLayer 45 = .ok (.iload_n 3, 1) := by decide +kernel
theorem d_Mo_outLayer_46 : decode b_Mo_outLayer 46 = .ok (.aload_n 0, 1) := by decide +kernel
theorem d_Mo_outLayer_47 : decode b_Mo_outLayer 47 = .ok (.iload_n 1, 1) := by decide +kernel
theorem d_Mo_outLayer_48 : decode b_Mo_outLayer 48 = .ok (.invokevirtual 156, 3) := by decide +kernel
theorem d_Mo_outLayer_51 : decode b_Mo_outLayer 51 = .ok (.if_icmp .ge 7, 3) := by decide +kernel
theorem d_Mo_outLayer_54 : decode b_Mo_outLayer 54 = .ok (.iconst 1, 1) := by decide +kernel
theorem d_Mo_outLayer_55 : decode b_Mo_outLayer 55 = .ok (.goto 4, 3) := by decide +kernel
theorem d_Mo_outLayer_58 : decode b_Mo_outLayer 58 = .ok (.iconst 0, 1) := by decide +kernel
theorem d_Mo_outLayer_59 : decode b_Mo_outLayer 59 = .ok (.istore 4, 2) := by decide +kernel
theorem d_Mo_outLayer_61 : decode b_Mo_outLayer 61 = .ok (.iload 4, 2) := by decide +kernel
theorem d_Mo_outLayer_63 : decode b_Mo_outLayer 63 = .ok (.ifCond .eq 7, 3) := by decide +kernel
theorem d_Mo_outLayer_66 : decode b_Mo_outLayer 66 = .ok (.iload_n 3, 1) := by decide +kernel
theorem d_Mo_outLayer_67 : decode b_Mo_outLayer 67 = .ok (.goto 8, 3) := by decide +kernel
theorem d_Mo_outLayer_70 : decode b_Mo_outLayer 70 = .ok (.aload_n 0, 1) := by decide +kernel
theorem d_Mo_outLayer_71 : decode b_Mo_outLayer 71 = .ok (.iload_n 1, 1) := by decide +kernel
theorem d_Mo_outLayer_72 : decode b_Mo_outLayer 72 = .ok (.invokevirtual 156, 3) := by decide +kernel
theorem d_Mo_outLayer_75 : decode b_Mo_outLayer 75 = .ok (.istore_n 3, 1) := by decide +kernel
theorem d_Mo_outLayer_76 : decode b_Mo_outLayer 76 = .ok (.aload_n 0, 1) := by decide +kernel
theorem d_Mo_outLayer_77 : decode b_Mo_outLayer 77 = .ok (.sipush 160, 3) := by decide +kernel
theorem d_Mo_outLayer_80 : decode b_Mo_outLayer 80 = .ok (.iload_n 1, 1) := by decide +kernel
theorem d_Mo_outLayer_81 : decode b_Mo_outLayer 81 = .ok (.iadd, 1) := by decide +kernel
theorem d_Mo_outLayer_82 : decode b_Mo_outLayer 82 = .ok (.invokevirtual 150, 3) := by decide +kernel
theorem d_Mo_outLayer_85 : decode b_Mo_outLayer 85 = .ok (.aload_n 0, 1) := by decide +kernel
theorem d_Mo_outLayer_86 : decode b_Mo_outLayer 86 = .ok (.iload 4, 2) := by decide +kernel
theorem d_Mo_outLayer_88 : decode b_Mo_outLayer 88 = .ok (.ifCond .eq 7, 3) := by decide +kernel
theorem d_Mo_outLayer_91 : decode b_Mo_outLayer 91 = .ok (.iconst 1, 1) := by decide +kernel
theorem d_Mo_outLayer_92 : decode b_Mo_outLayer 92 = .ok (.goto 4, 3) := by decide +kernel
theorem d_Mo_outLayer_95 : decode b_Mo_outLayer 95 = .ok (.iconst 0, 1) := by decide +kernel
theorem d_Mo_outLayer_96 : decode b_Mo_outLayer 96 = .ok (.invokevirtual 150, 3) := by decide +kernel
theorem d_Mo_outLayer_99 : decode b_Mo_outLayer 99 = .ok (.aload_n 0, 1) := by decide +kernel
theorem d_Mo_outLayer_100 : decode b_Mo_outLayer 100 = .ok (.iload_n 3, 1) := by decide +kernel
theorem d_Mo_outLayer_101 : decode b_Mo_outLayer 101 = .ok (.sipush 255, 3) := by decide +kernel
theorem d_Mo_outLayer_104 : decode b_Mo_outLayer 104 = .ok (.iand, 1) := by decide +kernel
theorem d_Mo_outLayer_105 : decode b_Mo_outLayer 105 = .ok (.invokevirtual 150, 3) := by decide +kernel
theorem d_Mo_outLayer_108 : decode b_Mo_outLayer 108 = .ok (.aload_n 0, 1) := by decide +kernel
theorem d_Mo_outLayer_109 : decode b_Mo_outLayer 109 = .ok (.iload_n 3, 1) := by decide +kernel
theorem d_Mo_outLayer_110 : decode b_Mo_outLayer 110 = .ok (.bipush 8, 2) := by decide +kernel
theorem d_Mo_outLayer_112 : decode b_Mo_outLayer 112 = .ok (.ishr, 1) := by decide +kernel
theorem d_Mo_outLayer_113 : decode b_Mo_outLayer 113 = .ok (.invokevirtual 150, 3) := by decide +kernel
theorem d_Mo_outLayer_116 : decode b_Mo_outLayer 116 = .ok (.iload 4, 2) := by decide +kernel
theorem d_Mo_outLayer_118 : decode b_Mo_outLayer 118 = .ok (.ifCond .eq 57, 3) := by decide +kernel
theorem d_Mo_outLayer_121 : decode b_Mo_outLayer 121 = .ok (.iconst 0, 1) := by decide +kernel
theorem d_Mo_outLayer_122 : decode b_Mo_outLayer 122 = .ok (.istore 5, 2) := by decide +kernel
theorem d_Mo_outLayer_124 : decode b_Mo_outLayer 124 = .ok (.iload 5, 2) := by decide +kernel
theorem d_Mo_outLayer_126 : decode b_Mo_outLayer 126 = .ok (.iload_n 2, 1) := by decide +kernel
theorem d_Mo_outLayer_127 : decode b_Mo_outLayer 127 = .ok (.if_icmp .ge 45, 3) := by decide +kernel
theorem d_Mo_outLayer_130 : decode b_Mo_outLayer 130 = .ok (.aload_n 0, 1) := by decide +kernel
theorem d_Mo_outLayer_131 : decode b_Mo_outLayer 131 = .ok (.iload_n 1, 1) := by decide +kernel
theorem d_Mo_outLayer_132 : decode b_Mo_outLayer 132 = .ok (.iload 5, 2) := by decide +kernel
theorem d_Mo_outLayer_134 : decode b_Mo_outLayer 134 = .ok (.invokevirtual 153, 3) := by decide +kernel
theorem d_Mo_outLayer_137 : decode b_Mo_outLayer 137 = .ok (.istore 6, 2) := by decide +kernel
theorem d_Mo_outLayer_139 : decode b_Mo_outLayer 139 = .ok (.aload_n 0, 1) := by decide +kernel
theorem d_Mo_outLayer_140 : decode b_Mo_outLayer 140 = .ok (.iload 6, 2) := by decide +kernel
theorem d_Mo_outLayer_142 : decode b_Mo_outLayer 142 = .ok (.invokevirtual 150, 3) := by decide +kernel
theorem d_Mo_outLayer_145 : decode b_Mo_outLayer 145 = .ok (.aload_n 0, 1) := by decide +kernel
theorem d_Mo_outLayer_146 : decode b_Mo_outLayer 146 = .ok (.iload_n 1, 1) := by decide +kernel
theorem d_Mo_outLayer_147 : decode b_Mo_outLayer 147 = .ok (.aload_n 0, 1) := by decide +kernel
theorem d_Mo_outLayer_148 : decode b_Mo_outLayer 148 = .ok (.getfield 21, 3) := by decide +kernel
theorem d_Mo_outLayer_151 : decode b_Mo_outLayer 151 = .ok (.aload_n 0, 1) := by decide +kernel
theorem d_Mo_outLayer_152 : decode b_Mo_outLayer 152 = .ok (.iload_n 1, 1) := by decide +kernel
theorem d_Mo_outLayer_153 : decode b_Mo_outLayer 153 = .ok (.iload 5, 2) := by decide +kernel
theorem d_Mo_outLayer_155 : decode b_Mo_outLayer 155 = .ok (.invokevirtual 88, 3) := by decide +kernel
theorem d_Mo_outLayer_158 : decode b_Mo_outLayer 158 = .ok (.iaload, 1) := by decide +kernel
theorem d_Mo_outLayer_159 : decode b_Mo_outLayer 159 = .ok (.invokevirtual 159, 3) := by decide +kernel
theorem d_Mo_outLayer_162 : decode b_Mo_outLayer 162 = .ok (.iload 5, 2) := by decide +kernel
theorem d_Mo_outLayer_164 : decode b_Mo_outLayer 164 = .ok (.iload 6, 2) := by decide +kernel
theorem d_Mo_outLayer_166 : decode b_Mo_outLayer 166 = .ok (.iadd, 1) := by decide +kernel
theorem d_Mo_outLayer_167 : decode b_Mo_outLayer 167 = .ok (.istore 5, 2) := by decide +kernel
theorem d_Mo_outLayer_169 : decode b_Mo_outLayer 169 = .ok (.goto (-45), 3) := by decide +kernel
theorem d_Mo_outLayer_172 : decode b_Mo_outLayer 172 = .ok (.goto 118, 3) := by decide +kernel
theorem d_Mo_outLayer_175 : decode b_Mo_outLayer 175 = .ok (.iload_n 1, 1) := by decide +kernel
theorem d_Mo_outLayer_176 : decode b_Mo_outLayer 176 = .ok (.iconst 1, 1) := by decide +kernel
theorem d_Mo_outLayer_177 : decode b_Mo_outLayer 177 = .ok (.if_icmp .ne 81, 3) := by decide +kernel
theorem d_Mo_outLayer_180 : decode b_Mo_outLayer 180 = .ok (.iconst 0, 1) := by decide +kernel
theorem d_Mo_outLayer_181 : decode b_Mo_outLayer 181 = .ok (.istore 5, 2) := by decide +kernel
theorem d_Mo_outLayer_183 : decode b_Mo_outLayer 183 = .ok (.iload 5, 2) := by decide +kernel
theorem d_Mo_outLayer_185 : decode b_Mo_outLayer 185 = .ok (.iload_n 2, 1) := by decide +kernel
theorem d_Mo_outLayer_186 : decode b_Mo_outLayer 186 = .ok (.if_icmp .ge 69, 3) := by decide +kernel
theorem d_Mo_outLayer_189 : decode b_Mo_outLayer 189 = .ok (.iconst 0, 1) := by decide +kernel
theorem d_Mo_outLayer_190 : decode b_Mo_outLayer 190 = .ok (.istore 6, 2) := by decide +kernel
theorem d_Mo_outLayer_192 : decode b_Mo_outLayer 192 = .ok (.iconst 0, 1) := by decide +kernel
theorem d_Mo_outLayer_193 : decode b_Mo_outLayer 193 = .ok (.istore 7, 2) := by decide +kernel
theorem d_Mo_outLayer_195 : decode b_Mo_outLayer 195 = .ok (.iload 7, 2) := by decide +kernel
theorem d_Mo_outLayer_197 : decode b_Mo_outLayer 197 = .ok (.bipush 8, 2) := by decide +kernel
theorem d_Mo_outLayer_199 : decode b_Mo_outLayer 199 = .ok (.if_icmp .ge 44, 3) := by decide +kernel
theorem d_Mo_outLayer_202 : decode b_Mo_outLayer 202 = .ok (.iconst 2, 1) := by decide +kernel
theorem d_Mo_outLayer_203 : decode b_Mo_outLayer 203 = .ok (.iload 6, 2) := by decide +kernel
theorem d_Mo_outLayer_205 : decode b_Mo_outLayer 205 = .ok (.imul, 1) := by decide +kernel
theorem d_Mo_outLayer_206 : decode b_Mo_outLayer 206 = .ok (.iload 5, 2) := by decide +kernel
theorem d_Mo_outLayer_208 : decode b_Mo_outLayer 208 = .ok (.iload 7, 2) := by decide +kernel
theorem d_Mo_outLayer_210 : decode b_Mo_outLayer 210 = .ok (.iadd, 1) := by decide +kernel
theorem d_Mo_outLayer_211 : decode b_Mo_outLayer 211 = .ok (.iload_n 2, 1) := by decide +kernel
theorem d_Mo_outLayer_212 : decode b_Mo_outLayer 212 = .ok (.if_icmp .ge 21, 3) := by decide +kernel
theorem d_Mo_outLayer_215 : decode b_Mo_outLayer 215 = .ok (.aload_n 0, 1) := by decide +kernel
theorem d_Mo_outLayer_216 : decode b_Mo_outLayer 216 = .ok (.getfield 21, 3) := by decide +kernel
theorem d_Mo_outLayer_219 : decode b_Mo_outLayer 219 = .ok (.aload_n 0, 1) := by decide +kernel
theorem d_Mo_outLayer_220 : decode b_Mo_outLayer 220 = .ok (.iload_n 1, 1) := by decide +kernel
theorem d_Mo_outLayer_221 : decode b_Mo_outLayer 221 = .ok (.iload 5, 2) := by decide +kernel
theorem d_Mo_outLayer_223 : decode b_Mo_outLayer 223 = .ok (.iload 7, 2) := by decide +kernel
theorem d_Mo_outLayer_225 : decode b_Mo_outLayer 225 = .ok (.iadd, 1) := by decide +kernel
theorem d_Mo_outLayer_226 : decode b_Mo_outLayer 226 = .ok (.invokevirtual 88, 3) := by decide +kernel
theorem d_Mo_outLayer_229 : decode b_Mo_outLayer 229 = .ok (.iaload, 1) := by decide +kernel
theorem d_Mo_outLayer_230 : decode b_Mo_outLayer 230 = .ok (.goto 4, 3) := by decide +kernel
theorem d_Mo_outLayer_233 : decode b_Mo_outLayer 233 = .ok (.iconst 0, 1) := by decide +kernel
theorem d_Mo_outLayer_234 : decode b_Mo_outLayer 234 = .ok (.iadd, 1) := by decide +kernel
theorem d_Mo_outLayer_235 : decode b_Mo_outLayer 235 = .ok (.istore 6, 2) := by decide +kernel
theorem d_Mo_outLayer_237 : decode b_Mo_outLayer 237 = .ok (.iinc 7 1, 3) := by decide +kernel
theorem d_Mo_outLayer_240 : decode b_Mo_outLayer 240 = .ok (.goto (-45), 3) := by decide +kernel
theorem d_Mo_outLayer_243 : decode b_Mo_outLayer 243 = .ok (.aload_n 0, 1) := by decide +kernel
theorem d_Mo_outLayer_244 : decode b_Mo_outLayer 244 = .ok (.iload 6, 2) := by decide +kernel
theorem d_Mo_outLayer_246 : decode b_Mo_outLayer 246 = .ok (.invokevirtual 150, 3) := by decide +kernel
theorem d_Mo_outLayer_249 : decode b_Mo_outLayer 249 = .ok (.iinc 5 8, 3) := by decide +kernel
theorem d_Mo_outLayer_252 : decode b_Mo_outLayer 252 = .ok (.goto (-69), 3) := by decide +kernel
theorem d_Mo_outLayer_255 : decode b_Mo_outLayer 255 = .ok (.goto 35, 3) := by decide +kernel
theorem d_Mo_outLayer_258 : decode b_Mo_outLayer 258 = .ok (.iconst 0, 1) := by decide +kernel
theorem d_Mo_outLayer_259 : decode b_Mo_outLayer 259 = .ok (.istore 5, 2) := by decide +kernel
theorem d_Mo_outLayer_261 : decode b_Mo_outLayer 261 = .ok (.iload 5, 2) := by decide +kernel
theorem d_Mo_outLayer_263 : decode b_Mo_outLayer 263 = .ok (.iload_n 2, 1) := by decide +kernel
theorem d_Mo_outLayer_264 : decode b_Mo_outLayer 264 = .ok (.if_icmp .ge 26, 3) := by decide +kernel
theorem d_Mo_outLayer_267 : decode b_Mo_outLayer 267 = .ok (.aload_n 0, 1) := by decide +kernel
theorem d_Mo_outLayer_268 : decode b_Mo_outLayer 268 = .ok (.iload_n 1, 1) := by decide +kernel
theorem d_Mo_outLayer_269 : decode b_Mo_outLayer 269 = .ok (.aload_n 0, 1) := by decide +kernel
theorem d_Mo_outLayer_270 : decode b_Mo_outLayer 270 = .ok (.getfield 21, 3) := by decide +kernel
theorem d_Mo_outLayer_273 : decode b_Mo_outLayer 273 = .ok (.aload_n 0, 1) := by decide +kernel
theorem d_Mo_outLayer_274 : decode b_Mo_outLayer 274 = .ok (.iload_n 1, 1) := by decide +kernel
theorem d_Mo_outLayer_275 : decode b_Mo_outLayer 275 = .ok (.iload 5, 2) := by decide +kernel
theorem d_Mo_outLayer_277 : decode b_Mo_outLayer 277 = .ok (.invokevirtual 88, 3) := by decide +kernel
theorem d_Mo_outLayer_280 : decode b_Mo_outLayer 280 = .ok (.iaload, 1) := by decide +kernel
theorem d_Mo_outLayer_281 : decode b_Mo_outLayer 281 = .ok (.invokevirtual 159, 3) := by decide +kernel
theorem d_Mo_outLayer_284 : decode b_Mo_outLayer 284 = .ok (.iinc 5 1, 3) := by decide +kernel
theorem d_Mo_outLayer_287 : decode b_Mo_outLayer 287 = .ok (.goto (-26), 3) := by decide +kernel
theorem d_Mo_outLayer_290 : decode b_Mo_outLayer 290 = .ok (.return_, 1) := by decide +kernel
abbrev b_Mo_write : ByteArray := prog_8_method_34_code
def y_Mo_write : MethodName := ⟨"MaskLayersModel", "write", "()I"⟩
theorem d_Mo_write_0 : decode b_Mo_write 0 = .ok (.aload_n 0, 1) := by decide +kernel
theorem d_Mo_write_1 : decode b_Mo_write 1 = .ok (.aload_n 0, 1) := by decide +kernel
theorem d_Mo_write_2 : decode b_Mo_write 2 = .ok (.getfield 124, 3) := by decide +kernel
theorem d_Mo_write_5 : decode b_Mo_write 5 = .ok (.ifCond .eq 7, 3) := by decide +kernel
theorem d_Mo_write_8 : decode b_Mo_write 8 = .ok (.iconst 0, 1) := by decide +kernel
theorem d_Mo_write_9 : decode b_Mo_write 9 = .ok (.goto 4, 3) := by decide +kernel
theorem d_Mo_write_12 : decode b_Mo_write 12 = .ok (.iconst 1, 1) := by decide +kernel
theorem d_Mo_write_13 : decode b_Mo_write 13 = .ok (.putfield 51, 3) := by decide +kernel
theorem d_Mo_write_16 : decode b_Mo_write 16 = .ok (.aload_n 0, 1) := by decide +kernel
theorem d_Mo_write_17 : decode b_Mo_write 17 = .ok (.getfield 51, 3) := by decide +kernel
theorem d_Mo_write_20 : decode b_Mo_write 20 = .ok (.ifCond .le 5, 3) := by decide +kernel
theorem d_Mo_write_23 : decode b_Mo_write 23 = .ok (.iconst 0, 1) := by decide +kernel
theorem d_Mo_write_24 : decode b_Mo_write 24 = .ok (.ireturn, 1) := by decide +kernel
theorem d_Mo_write_25 : decode b_Mo_write 25 = .ok (.aload_n 0, 1) := by decide +kernel
theorem d_Mo_write_26 : decode b_Mo_write 26 = .ok (.iconst 0, 1) := by decide +kernel
theorem d_Mo_write_27 : decode b_Mo_write 27 = .ok (.putfield 147, 3) := by decide +kernel
theorem d_Mo_write_30 : decode b_Mo_write 30 = .ok (.aload_n 0, 1) := by decide +kernel
theorem d_Mo_write_31 : decode b_Mo_write 31 = .ok (.bipush 77, 2) := by decide +kernel
theorem d_Mo_write_33 : decode b_Mo_write 33 = .ok (.invokevirtual 150, 3) := by decide +kernel
theorem d_Mo_write_36 : decode b_Mo_write 36 = .ok (.aload_n 0, 1) := by decide +kernel
theorem d_Mo_write_37 : decode b_Mo_write 37 = .ok (.bipush 76, 2) := by decide +kernel
theorem d_Mo_write_39 : decode b_Mo_write 39 = .ok (.invokevirtual 150, 3) := by decide +kernel
theorem d_Mo_write_42 : decode b_Mo_write 42 = .ok (.aload_n 0, 1) := by decide +kernel
theorem d_Mo_write_43 : decode b_Mo_write 43 = .ok (.aload_n 0, 1) := by decide +kernel
theorem d_Mo_write_44 : decode b_Mo_write 44 = .ok (.getfield 45, 3) := by decide +kernel
theorem d_Mo_write_47 : decode b_Mo_write 47 = .ok (.invokevirtual 150, 3) := by decide +kernel
theorem d_Mo_write_50 : decode b_Mo_write 50 = .ok (.aload_n 0, 1) := by decide +kernel
theorem d_Mo_write_51 : decode b_Mo_write 51 = .ok (.aload_n 0, 1) := by decide +kernel
theorem d_Mo_write_52 : decode b_Mo_write 52 = .ok (.getfield 48, 3) := by decide +kernel
theorem d_Mo_write_55 : decode b_Mo_write 55 = .ok (.invokevirtual 150, 3) := by decide +kernel
theorem d_Mo_write_58 : decode b_Mo_write 58 = .ok (.aload_n 0, 1) := by decide +kernel
theorem d_Mo_write_59 : decode b_Mo_write 59 = .ok (.aload_n 0, 1) := by decide +kernel
theorem d_Mo_write_60 : decode b_Mo_write 60 = .ok (.getfield 107, 3) := by decide +kernel
theorem d_Mo_write_63 : decode b_Mo_write 63 = .ok (.invokevirtual 150, 3) := by decide +kernel
theorem d_Mo_write_66 : decode b_Mo_write 66 = .ok (.aload_n 0, 1) := by decide +kernel
theorem d_Mo_write_67 : decode b_Mo_write 67 = .ok (.aload_n 0, 1) := by decide +kernel
theorem d_Mo_write_68 : decode b_Mo_write 68 = .ok (.getfield 128, 3) := by decide +kernel
theorem d_Mo_write_71 : decode b_Mo_write 71 = .ok (.invokevirtual 150, 3) := by decide +kernel
theorem d_Mo_write_74 : decode b_Mo_write 74 = .ok (.aload_n 0, 1) := by decide +kernel
theorem d_Mo_write_75 : decode b_Mo_write 75 = .ok (.aload_n 0, 1) := by decide +kernel
theorem d_Mo_write_76 : decode b_Mo_write 76 = .ok (.getfield 131, 3) := by decide +kernel
theorem d_Mo_write_79 : decode b_Mo_write 79 = .ok (.invokevirtual 150, 3) := by decide +kernel
theorem d_Mo_write_82 : decode b_Mo_write 82 = .ok (.iconst 0, 1) := by decide +kernel
theorem d_Mo_write_83 : decode b_Mo_write 83 = .ok (.istore_n 1, 1) := by decide +kernel
theorem d_Mo_write_84 : decode b_Mo_write 84 = .ok (.iload_n 1, 1) := by decide +kernel
theorem d_Mo_write_85 : decode b_Mo_write 85 = .ok (.aload_n 0, 1) := by decide +kernel
theorem d_Mo_write_86 : decode b_Mo_write 86 = .ok (.getfield 48, 3) := by decide +kernel
theorem d_Mo_write_89 : decode b_Mo_write 89 = .ok (.aload_n 0, 1) := by decide +kernel
theorem d_Mo_write_90 : decode b_Mo_write 90 = .ok (.getfield 107, 3) := by decide +kernel
theorem d_Mo_write_93 : decode b_Mo_write 93 = .ok (.invokestatic 63, 3) := by decide +kernel
