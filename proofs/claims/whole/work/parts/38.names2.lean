abbrev b_ByteRow_init : ByteArray := prog_2_method_1_code
def y_ByteRow_init : MethodName := ⟨"MaskLayers$ByteRow", "<init>", "()V"⟩
theorem d_ByteRow_init_0 : decode b_ByteRow_init 0 = .ok (.aload_n 0, 1) := by decide +kernel
theorem d_ByteRow_init_1 : decode b_ByteRow_init 1 = .ok (.invokespecial 3, 3) := by decide +kernel
theorem d_ByteRow_init_4 : decode b_ByteRow_init 4 = .ok (.aload_n 0, 1) := by decide +kernel
theorem d_ByteRow_init_5 : decode b_ByteRow_init 5 = .ok (.iconst 0, 1) := by decide +kernel
theorem d_ByteRow_init_6 : decode b_ByteRow_init 6 = .ok (.newarray .int, 2) := by decide +kernel
theorem d_ByteRow_init_8 : decode b_ByteRow_init 8 = .ok (.putfield 9, 3) := by decide +kernel
theorem d_ByteRow_init_11 : decode b_ByteRow_init 11 = .ok (.return_, 1) := by decide +kernel
abbrev b_Layers_init : ByteArray := prog_3_method_1_code
def y_Layers_init : MethodName := ⟨"MaskLayers$Layers", "<init>", "(I)V"⟩
theorem d_Layers_init_0 : decode b_Layers_init 0 = .ok (.aload_n 0, 1) := by decide +kernel
theorem d_Layers_init_1 : decode b_Layers_init 1 = .ok (.invokespecial 3, 3) := by decide +kernel
theorem d_Layers_init_4 : decode b_Layers_init 4 = .ok (.aload_n 0, 1) := by decide +kernel
theorem d_Layers_init_5 : decode b_Layers_init 5 = .ok (.iconst 4, 1) := by decide +kernel
theorem d_Layers_init_6 : decode b_Layers_init 6 = .ok (.iload_n 1, 1) := by decide +kernel
theorem d_Layers_init_7 : decode b_Layers_init 7 = .ok (.multianewarray 9 2, 4) := by decide +kernel
theorem d_Layers_init_11 : decode b_Layers_init 11 = .ok (.putfield 11, 3) := by decide +kernel
theorem d_Layers_init_14 : decode b_Layers_init 14 = .ok (.aload_n 0, 1) := by decide +kernel
theorem d_Layers_init_15 : decode b_Layers_init 15 = .ok (.bipush 24, 2) := by decide +kernel
theorem d_Layers_init_17 : decode b_Layers_init 17 = .ok (.newarray .int, 2) := by decide +kernel
theorem d_Layers_init_19 : decode b_Layers_init 19 = .ok (.putfield 16, 3) := by decide +kernel
theorem d_Layers_init_22 : decode b_Layers_init 22 = .ok (.return_, 1) := by decide +kernel
abbrev b_Maker_init : ByteArray := prog_4_method_1_code
def y_Maker_init : MethodName := ⟨"MaskLayers$Maker", "<init>", "(LMaskLayers$Layers;[I[I)V"⟩
theorem d_Maker_init_0 : decode b_Maker_init 0 = .ok (.aload_n 0, 1) := by decide +kernel
theorem d_Maker_init_1 : decode b_Maker_init 1 = .ok (.invokespecial 3, 3) := by decide +kernel
theorem d_Maker_init_4 : decode b_Maker_init 4 = .ok (.aload_n 0, 1) := by decide +kernel
theorem d_Maker_init_5 : decode b_Maker_init 5 = .ok (.aload_n 1, 1) := by decide +kernel
theorem d_Maker_init_6 : decode b_Maker_init 6 = .ok (.putfield 9, 3) := by decide +kernel
theorem d_Maker_init_9 : decode b_Maker_init 9 = .ok (.aload_n 0, 1) := by decide +kernel
theorem d_Maker_init_10 : decode b_Maker_init 10 = .ok (.aload_n 2, 1) := by decide +kernel
theorem d_Maker_init_11 : decode b_Maker_init 11 = .ok (.putfield 15, 3) := by decide +kernel
theorem d_Maker_init_14 : decode b_Maker_init 14 = .ok (.aload_n 0, 1) := by decide +kernel
theorem d_Maker_init_15 : decode b_Maker_init 15 = .ok (.aload_n 3, 1) := by decide +kernel
theorem d_Maker_init_16 : decode b_Maker_init 16 = .ok (.putfield 19, 3) := by decide +kernel
theorem d_Maker_init_19 : decode b_Maker_init 19 = .ok (.aload_n 0, 1) := by decide +kernel
theorem d_Maker_init_20 : decode b_Maker_init 20 = .ok (.aload_n 2, 1) := by decide +kernel
theorem d_Maker_init_21 : decode b_Maker_init 21 = .ok (.arraylength, 1) := by decide +kernel
theorem d_Maker_init_22 : decode b_Maker_init 22 = .ok (.newarray .int, 2) := by decide +kernel
theorem d_Maker_init_24 : decode b_Maker_init 24 = .ok (.putfield 22, 3) := by decide +kernel
theorem d_Maker_init_27 : decode b_Maker_init 27 = .ok (.return_, 1) := by decide +kernel
abbrev b_Writer_init : ByteArray := prog_6_method_1_code
def y_Writer_init : MethodName := ⟨"MaskLayers$Writer", "<init>", "(LMaskLayers$Layers;LMaskLayers$ByteRow;)V"⟩
theorem d_Writer_init_0 : decode b_Writer_init 0 = .ok (.aload_n 0, 1) := by decide +kernel
theorem d_Writer_init_1 : decode b_Writer_init 1 = .ok (.invokespecial 3, 3) := by decide +kernel
theorem d_Writer_init_4 : decode b_Writer_init 4 = .ok (.aload_n 0, 1) := by decide +kernel
theorem d_Writer_init_5 : decode b_Writer_init 5 = .ok (.aload_n 1, 1) := by decide +kernel
theorem d_Writer_init_6 : decode b_Writer_init 6 = .ok (.putfield 9, 3) := by decide +kernel
theorem d_Writer_init_9 : decode b_Writer_init 9 = .ok (.aload_n 0, 1) := by decide +kernel
theorem d_Writer_init_10 : decode b_Writer_init 10 = .ok (.aload_n 2, 1) := by decide +kernel
theorem d_Writer_init_11 : decode b_Writer_init 11 = .ok (.putfield 15, 3) := by decide +kernel
theorem d_Writer_init_14 : decode b_Writer_init 14 = .ok (.return_, 1) := by decide +kernel
abbrev b_Reader_init : ByteArray := prog_5_method_1_code
def y_Reader_init : MethodName := ⟨"MaskLayers$Reader", "<init>", "(LMaskLayers$ByteRow;LMaskLayers$Layers;)V"⟩
theorem d_Reader_init_0 : decode b_Reader_init 0 = .ok (.aload_n 0, 1) := by decide +kernel
theorem d_Reader_init_1 : decode b_Reader_init 1 = .ok (.invokespecial 3, 3) := by decide +kernel
theorem d_Reader_init_4 : decode b_Reader_init 4 = .ok (.aload_n 0, 1) := by decide +kernel
theorem d_Reader_init_5 : decode b_Reader_init 5 = .ok (.aload_n 1, 1) := by decide +kernel
theorem d_Reader_init_6 : decode b_Reader_init 6 = .ok (.putfield 9, 3) := by decide +kernel
theorem d_Reader_init_9 : decode b_Reader_init 9 = .ok (.aload_n 0, 1) := by decide +kernel
theorem d_Reader_init_10 : decode b_Reader_init 10 = .ok (.aload_n 2, 1) := by decide +kernel
theorem d_Reader_init_11 : decode b_Reader_init 11 = .ok (.putfield 15, 3) := by decide +kernel
theorem d_Reader_init_14 : decode b_Reader_init 14 = .ok (.aload_n 0, 1) := by decide +kernel
theorem d_Reader_init_15 : decode b_Reader_init 15 = .ok (.getstatic 19, 3) := by decide +kernel
theorem d_Reader_init_18 : decode b_Reader_init 18 = .ok (.arraylength, 1) := by decide +kernel
theorem d_Reader_init_19 : decode b_Reader_init 19 = .ok (.newarray .int, 2) := by decide +kernel
theorem d_Reader_init_21 : decode b_Reader_init 21 = .ok (.putfield 23, 3) := by decide +kernel
theorem d_Reader_init_24 : decode b_Reader_init 24 = .ok (.return_, 1) := by decide +kernel
abbrev b_ML_init : ByteArray := prog_1_method_1_code
def y_ML_init : MethodName := ⟨"MaskLayers", "<init>", "(II)V"⟩
theorem d_ML_init_0 : decode b_ML_init 0 = .ok (.aload_n 0, 1) := by decide +kernel
theorem d_ML_init_1 : decode b_ML_init 1 = .ok (.invokespecial 1, 3) := by decide +kernel
theorem d_ML_init_4 : decode b_ML_init 4 = .ok (.aload_n 0, 1) := by decide +kernel
theorem d_ML_init_5 : decode b_ML_init 5 = .ok (.iconst 1, 1) := by decide +kernel
theorem d_ML_init_6 : decode b_ML_init 6 = .ok (.bipush 24, 2) := by decide +kernel
theorem d_ML_init_8 : decode b_ML_init 8 = .ok (.iload_n 1, 1) := by decide +kernel
theorem d_ML_init_9 : decode b_ML_init 9 = .ok (.invokestatic 9, 3) := by decide +kernel
theorem d_ML_init_12 : decode b_ML_init 12 = .ok (.invokestatic 15, 3) := by decide +kernel
theorem d_ML_init_15 : decode b_ML_init 15 = .ok (.putfield 18, 3) := by decide +kernel
theorem d_ML_init_18 : decode b_ML_init 18 = .ok (.aload_n 0, 1) := by decide +kernel
theorem d_ML_init_19 : decode b_ML_init 19 = .ok (.iconst 1, 1) := by decide +kernel
theorem d_ML_init_20 : decode b_ML_init 20 = .ok (.bipush 24, 2) := by decide +kernel
theorem d_ML_init_22 : decode b_ML_init 22 = .ok (.iload_n 2, 1) := by decide +kernel
theorem d_ML_init_23 : decode b_ML_init 23 = .ok (.invokestatic 9, 3) := by decide +kernel
theorem d_ML_init_26 : decode b_ML_init 26 = .ok (.invokestatic 15, 3) := by decide +kernel
theorem d_ML_init_29 : decode b_ML_init 29 = .ok (.putfield 22, 3) := by decide +kernel
theorem d_ML_init_32 : decode b_ML_init 32 = .ok (.aload_n 0, 1) := by decide +kernel
theorem d_ML_init_33 : decode b_ML_init 33 = .ok (.getfield 18, 3) := by decide +kernel
theorem d_ML_init_36 : decode b_ML_init 36 = .ok (.aload_n 0, 1) := by decide +kernel
theorem d_ML_init_37 : decode b_ML_init 37 = .ok (.getfield 22, 3) := by decide +kernel
theorem d_ML_init_40 : decode b_ML_init 40 = .ok (.imul, 1) := by decide +kernel
theorem d_ML_init_41 : decode b_ML_init 41 = .ok (.istore_n 3, 1) := by decide +kernel
theorem d_ML_init_42 : decode b_ML_init 42 = .ok (.aload_n 0, 1) := by decide +kernel
theorem d_ML_init_43 : decode b_ML_init 43 = .ok (.iload_n 3, 1) := by decide +kernel
theorem d_ML_init_44 : decode b_ML_init 44 = .ok (.newarray .int, 2) := by decide +kernel
theorem d_ML_init_46 : decode b_ML_init 46 = .ok (.putfield 25, 3) := by decide +kernel
theorem d_ML_init_49 : decode b_ML_init 49 = .ok (.aload_n 0, 1) := by decide +kernel
theorem d_ML_init_50 : decode b_ML_init 50 = .ok (.iload_n 3, 1) := by decide +kernel
theorem d_ML_init_51 : decode b_ML_init 51 = .ok (.newarray .int, 2) := by decide +kernel
theorem d_ML_init_53 : decode b_ML_init 53 = .ok (.putfield 29, 3) := by decide +kernel
theorem d_ML_init_56 : decode b_ML_init 56 = .ok (.aload_n 0, 1) := by decide +kernel
theorem d_ML_init_57 : decode b_ML_init 57 = .ok (.new 32, 3) := by decide +kernel
theorem d_ML_init_60 : decode b_ML_init 60 = .ok (.dup, 1) := by decide +kernel
theorem d_ML_init_61 : decode b_ML_init 61 = .ok (.iload_n 3, 1) := by decide +kernel
theorem d_ML_init_62 : decode b_ML_init 62 = .ok (.invokespecial 34, 3) := by decide +kernel
theorem d_ML_init_65 : decode b_ML_init 65 = .ok (.putfield 37, 3) := by decide +kernel
theorem d_ML_init_68 : decode b_ML_init 68 = .ok (.aload_n 0, 1) := by decide +kernel
theorem d_ML_init_69 : decode b_ML_init 69 = .ok (.new 32, 3) := by decide +kernel
theorem d_ML_init_72 : decode b_ML_init 72 = .ok (.dup, 1) := by decide +kernel
theorem d_ML_init_73 : decode b_ML_init 73 = .ok (.sipush 576, 3) := by decide +kernel
theorem d_ML_init_76 : decode b_ML_init 76 = .ok (.invokespecial 34, 3) := by decide +kernel
theorem d_ML_init_79 : decode b_ML_init 79 = .ok (.putfield 41, 3) := by decide +kernel
theorem d_ML_init_82 : decode b_ML_init 82 = .ok (.aload_n 0, 1) := by decide +kernel
theorem d_ML_init_83 : decode b_ML_init 83 = .ok (.new 44, 3) := by decide +kernel
theorem d_ML_init_86 : decode b_ML_init 86 = .ok (.dup, 1) := by decide +kernel
theorem d_ML_init_87 : decode b_ML_init 87 = .ok (.invokespecial 46, 3) := by decide +kernel
theorem d_ML_init_90 : decode b_ML_init 90 = .ok (.putfield 47, 3) := by decide +kernel
theorem d_ML_init_93 : decode b_ML_init 93 = .ok (.aload_n 0, 1) := by decide +kernel
theorem d_ML_init_94 : decode b_ML_init 94 = .ok (.new 44, 3) := by decide +kernel
theorem d_ML_init_97 : decode b_ML_init 97 = .ok (.dup, 1) := by decide +kernel
theorem d_ML_init_98 : decode b_ML_init 98 = .ok (.invokespecial 46, 3) := by decide +kernel
theorem d_ML_init_101 : decode b_ML_init 101 = .ok (.putfield 51, 3) := by decide +kernel
theorem d_ML_init_104 : decode b_ML_init 104 = .ok (.aload_n 0, 1) := by decide +kernel
theorem d_ML_init_105 : decode b_ML_init 105 = .ok (.new 54, 3) := by decide +kernel
theorem d_ML_init_108 : decode b_ML_init 108 = .ok (.dup, 1) := by decide +kernel
theorem d_ML_init_109 : decode b_ML_init 109 = .ok (.aload_n 0, 1) := by decide +kernel
theorem d_ML_init_110 : decode b_ML_init 110 = .ok (.getfield 37, 3) := by decide +kernel
theorem d_ML_init_113 : decode b_ML_init 113 = .ok (.aload_n 0, 1) := by decide +kernel
theorem d_ML_init_114 : decode b_ML_init 114 = .ok (.getfield 25, 3) := by decide +kernel
theorem d_ML_init_117 : decode b_ML_init 117 = .ok (.aload_n 0, 1) := by decide +kernel
theorem d_ML_init_118 : decode b_ML_init 118 = .ok (.getfield 29, 3) := by decide +kernel
theorem d_ML_init_121 : decode b_ML_init 121 = .ok (.invokespecial 56, 3) := by decide +kernel
theorem d_ML_init_124 : decode b_ML_init 124 = .ok (.putfield 59, 3) := by decide +kernel
theorem d_ML_init_127 : decode b_ML_init 127 = .ok (.aload_n 0, 1) := by decide +kernel
theorem d_ML_init_128 : decode b_ML_init 128 = .ok (.new 63, 3) := by decide +kernel
theorem d_ML_init_131 : decode b_ML_init 131 = .ok (.dup, 1) := by decide +kernel
theorem d_ML_init_132 : decode b_ML_init 132 = .ok (.aload_n 0, 1) := by decide +kernel
theorem d_ML_init_133 : decode b_ML_init 133 = .ok (.getfield 37, 3) := by decide +kernel
theorem d_ML_init_136 : decode b_ML_init 136 = .ok (.aload_n 0, 1) := by decide +kernel
theorem d_ML_init_137 : decode b_ML_init 137 = .ok (.getfield 47, 3) := by decide +kernel
theorem d_ML_init_140 : decode b_ML_init 140 = .ok (.invokespecial 65, 3) := by decide +kernel
theorem d_ML_init_143 : decode b_ML_init 143 = .ok (.putfield 68, 3) := by decide +kernel
theorem d_ML_init_146 : decode b_ML_init 146 = .ok (.aload_n 0, 1) := by decide +kernel
theorem d_ML_init_147 : decode b_ML_init 147 = .ok (.new 72, 3) := by decide +kernel
theorem d_ML_init_150 : decode b_ML_init 150 = .ok (.dup, 1) := by decide +kernel
theorem d_ML_init_151 : decode b_ML_init 151 = .ok (.aload_n 0, 1) := by decide +kernel
theorem d_ML_init_152 : decode b_ML_init 152 = .ok (.getfield 51, 3) := by decide +kernel
theorem d_ML_init_155 : decode b_ML_init 155 = .ok (.aload_n 0, 1) := by decide +kernel
theorem d_ML_init_156 : decode b_ML_init 156 = .ok (.getfield 41, 3) := by decide +kernel
theorem d_ML_init_159 : decode b_ML_init 159 = .ok (.invokespecial 74, 3) := by decide +kernel
theorem d_ML_init_162 : decode b_ML_init 162 = .ok (.putfield 77, 3) := by decide +kernel
theorem d_ML_init_165 : decode b_ML_init 165 = .ok (.aload_n 0, 1) := by decide +kernel
theorem d_ML_init_166 : decode b_ML_init 166 = .ok (.bipush 24, 2) := by decide +kernel
theorem d_ML_init_168 : decode b_ML_init 168 = .ok (.putfield 81, 3) := by decide +kernel
theorem d_ML_init_171 : decode b_ML_init 171 = .ok (.return_, 1) := by decide +kernel
abbrev b_ML_hasSample : ByteArray := prog_1_method_18_code
def y_ML_hasSample : MethodName := ⟨"MaskLayers", "hasSample", "(II)Z"⟩
theorem d_ML_hasSample_0 : decode b_ML_hasSample 0 = .ok (.iload_n 1, 1) := by decide +kernel
theorem d_ML_hasSample_1 : decode b_ML_hasSample 1 = .ok (.ifCond .lt 27, 3) := by decide +kernel
theorem d_ML_hasSample_4 : decode b_ML_hasSample 4 = .ok (.iload_n 1, 1) := by decide +kernel
theorem d_ML_hasSample_5 : decode b_ML_hasSample 5 = .ok (.aload_n 0, 1) := by decide +kernel
theorem d_ML_hasSample_6 : decode b_ML_hasSample 6 = .ok (.getfield 18, 3) := by decide +kernel
theorem d_ML_hasSample_9 : decode b_ML_hasSample 9 = .ok (.if_icmp .ge 19, 3) := by decide +kernel
theorem d_ML_hasSample_12 : decode b_ML_hasSample 12 = .ok (.iload_n 2, 1) := by decide +kernel
theorem d_ML_hasSample_13 : decode b_ML_hasSample 13 = .ok (.ifCond .lt 15, 3) := by decide +kernel
theorem d_ML_hasSample_16 : decode b_ML_hasSample 16 = .ok (.iload_n 2, 1) := by decide +kernel
theorem d_ML_hasSample_17 : decode b_ML_hasSample 17 = .ok (.aload_n 0, 1) := by decide +kernel
theorem d_ML_hasSample_18 : decode b_ML_hasSample 18 = .ok (.getfield 22, 3) := by decide +kernel
theorem d_ML_hasSample_21 : decode b_ML_hasSample 21 = .ok (.if_icmp .ge 7, 3) := by decide +kernel
theorem d_ML_hasSample_24 : decode b_ML_hasSample 24 = .ok (.iconst 1, 1) := by decide +kernel
theorem d_ML_hasSample_25 : decode b_ML_hasSample 25 = .ok (.goto 4, 3) := by decide +kernel
theorem d_ML_hasSample_28 : decode b_ML_hasSample 28 = .ok (.iconst 0, 1) := by decide +kernel
theorem d_ML_hasSample_29 : decode b_ML_hasSample 29 = .ok (.ireturn, 1) := by decide +kernel
abbrev b_ML_maskedSamples : ByteArray := prog_1_method_20_code
def y_ML_maskedSamples : MethodName := ⟨"MaskLayers", "maskedSamples", "()I"⟩
theorem d_ML_maskedSamples_0 : decode b_ML_maskedSamples 0 = .ok (.iconst 0, 1) := by decide +kernel
theorem d_ML_maskedSamples_1 : decode b_ML_maskedSamples 1 = .ok (.istore_n 1, 1) := by decide +kernel
theorem d_ML_maskedSamples_2 : decode b_ML_maskedSamples 2 = .ok (.iconst 0, 1) := by decide +kernel
theorem d_ML_maskedSamples_3 : decode b_ML_maskedSamples 3 = .ok (.istore_n 2, 1) := by decide +kernel
theorem d_ML_maskedSamples_4 : decode b_ML_maskedSamples 4 = .ok (.iload_n 2, 1) := by decide +kernel
theorem d_ML_maskedSamples_5 : decode b_ML_maskedSamples 5 = .ok (.aload_n 0, 1) := by decide +kernel
theorem d_ML_maskedSamples_6 : decode b_ML_maskedSamples 6 = .ok (.getfield 29, 3) := by decide +kernel
theorem d_ML_maskedSamples_9 : decode b_ML_maskedSamples 9 = .ok (.arraylength, 1) := by decide +kernel
theorem d_ML_maskedSamples_10 : decode b_ML_maskedSamples 10 = .ok (.if_icmp .ge 18, 3) := by decide +kernel
theorem d_ML_maskedSamples_13 : decode b_ML_maskedSamples 13 = .ok (.iload_n 1, 1) := by decide +kernel
theorem d_ML_maskedSamples_14 : decode b_ML_maskedSamples 14 = .ok (.aload_n 0, 1) := by decide +kernel
theorem d_ML_maskedSamples_15 : decode b_ML_maskedSamples 15 = .ok (.getfield 29, 3) := by decide +kernel
theorem d_ML_maskedSamples_18 : decode b_ML_maskedSamples 18 = .ok (.iload_n 2, 1) := by decide +kernel
theorem d_ML_maskedSamples_19 : decode b_ML_maskedSamples 19 = .ok (.iaload, 1) := by decide +kernel
theorem d_ML_maskedSamples_20 : decode b_ML_maskedSamples 20 = .ok (.iadd, 1) := by decide +kernel
theorem d_ML_maskedSamples_21 : decode b_ML_maskedSamples 21 = .ok (.istore_n 1, 1) := by decide +kernel
theorem d_ML_maskedSamples_22 : decode b_ML_maskedSamples 22 = .ok (.iinc 2 1, 3) := by decide +kernel
theorem d_ML_maskedSamples_25 : decode b_ML_maskedSamples 25 = .ok (.goto (-21), 3) := by decide +kernel
theorem d_ML_maskedSamples_28 : decode b_ML_maskedSamples 28 = .ok (.iload_n 1, 1) := by decide +kernel
theorem d_ML_maskedSamples_29 : decode b_ML_maskedSamples 29 = .ok (.ireturn, 1) := by decide +kernel
abbrev b_ML_layer : ByteArray := prog_1_method_6_code
def y_ML_layer : MethodName := ⟨"MaskLayers", "layer", "(III)I"⟩
theorem d_ML_layer_0 : decode b_ML_layer 0 = .ok (.aload_n 0, 1) := by decide +kernel
theorem d_ML_layer_1 : decode b_ML_layer 1 = .ok (.getfield 37, 3) := by decide +kernel
theorem d_ML_layer_4 : decode b_ML_layer 4 = .ok (.getfield 122, 3) := by decide +kernel
theorem d_ML_layer_7 : decode b_ML_layer 7 = .ok (.ifCond .ne 13, 3) := by decide +kernel
theorem d_ML_layer_10 : decode b_ML_layer 10 = .ok (.new 125, 3) := by decide +kernel
theorem d_ML_layer_13 : decode b_ML_layer 13 = .ok (.dup, 1) := by decide +kernel
theorem d_ML_layer_14 : decode b_ML_layer 14 = .ok (.ldc 127, 2) := by decide +kernel
theorem d_ML_layer_16 : decode b_ML_layer 16 = .ok (.invokespecial 129, 3) := by decide +kernel
theorem d_ML_layer_19 : decode b_ML_layer 19 = .ok (.athrow, 1) := by decide +kernel
theorem d_ML_layer_20 : decode b_ML_layer 20 = .ok (.aload_n 0, 1) := by decide +kernel
theorem d_ML_layer_21 : decode b_ML_layer 21 = .ok (.getfield 37, 3) := by decide +kernel
theorem d_ML_layer_24 : decode b_ML_layer 24 = .ok (.iload_n 2, 1) := by decide +kernel
theorem d_ML_layer_25 : decode b_ML_layer 25 = .ok (.iload_n 3, 1) := by decide +kernel
theorem d_ML_layer_26 : decode b_ML_layer 26 = .ok (.invokevirtual 130, 3) := by decide +kernel
theorem d_ML_layer_29 : decode b_ML_layer 29 = .ok (.ifCond .ne 13, 3) := by decide +kernel
theorem d_ML_layer_32 : decode b_ML_layer 32 = .ok (.new 88, 3) := by decide +kernel
theorem d_ML_layer_35 : decode b_ML_layer 35 = .ok (.dup, 1) := by decide +kernel
theorem d_ML_layer_36 : decode b_ML_layer 36 = .ok (.ldc 90, 2) := by decide +kernel
theorem d_ML_layer_38 : decode b_ML_layer 38 = .ok (.invokespecial 92, 3) := by decide +kernel
theorem d_ML_layer_41 : decode b_ML_layer 41 = .ok (.athrow, 1) := by decide +kernel
theorem d_ML_layer_42 : decode b_ML_layer 42 = .ok (.iload_n 1, 1) := by decide +kernel
theorem d_ML_layer_43 : decode b_ML_layer 43 = .ok (.ifCond .lt 8, 3) := by decide +kernel
theorem d_ML_layer_46 : decode b_ML_layer 46 = .ok (.iload_n 1, 1) := by decide +kernel
theorem d_ML_layer_47 : decode b_ML_layer 47 = .ok (.iconst 3, 1) := by decide +kernel
theorem d_ML_layer_48 : decode b_ML_layer 48 = .ok (.if_icmp .le 13, 3) := by decide +kernel
theorem d_ML_layer_51 : decode b_ML_layer 51 = .ok (.new 96, 3) := by decide +kernel
theorem d_ML_layer_54 : decode b_ML_layer 54 = .ok (.dup, 1) := by decide +kernel
theorem d_ML_layer_55 : decode b_ML_layer 55 = .ok (.ldc 131, 2) := by decide +kernel
theorem d_ML_layer_57 : decode b_ML_layer 57 = .ok (.invokespecial 100, 3) := by decide +kernel
theorem d_ML_layer_60 : decode b_ML_layer 60 = .ok (.athrow, 1) := by decide +kernel
theorem d_ML_layer_61 : decode b_ML_layer 61 = .ok (.aload_n 0, 1) := by decide +kernel
theorem d_ML_layer_62 : decode b_ML_layer 62 = .ok (.getfield 37, 3) := by decide +kernel
theorem d_ML_layer_65 : decode b_ML_layer 65 = .ok (.iload_n 1, 1) := by decide +kernel
theorem d_ML_layer_66 : decode b_ML_layer 66 = .ok (.iload_n 2, 1) := by decide +kernel
theorem d_ML_layer_67 : decode b_ML_layer 67 = .ok (.iload_n 3, 1) := by decide +kernel
theorem d_ML_layer_68 : decode b_ML_layer 68 = .ok (.invokevirtual 133, 3) := by decide +kernel
theorem d_ML_layer_71 : decode b_ML_layer 71 = .ok (.ireturn, 1) := by decide +kernel
abbrev b_ML_filled : ByteArray := prog_1_method_7_code
def y_ML_filled : MethodName := ⟨"MaskLayers", "filled", "(III)Z"⟩
theorem d_ML_filled_0 : decode b_ML_filled 0 = .ok (.aload_n 0, 1) := by decide +kernel
theorem d_ML_filled_1 : decode b_ML_filled 1 = .ok (.getfield 37, 3) := by decide +kernel
theorem d_ML_filled_4 : decode b_ML_filled 4 = .ok (.getfield 122, 3) := by decide +kernel
theorem d_ML_filled_7 : decode b_ML_filled 7 = .ok (.ifCond .ne 13, 3) := by decide +kernel
theorem d_ML_filled_10 : decode b_ML_filled 10 = .ok (.new 125, 3) := by decide +kernel
theorem d_ML_filled_13 : decode b_ML_filled 13 = .ok (.dup, 1) := by decide +kernel
theorem d_ML_filled_14 : decode b_ML_filled 14 = .ok (.ldc 127, 2) := by decide +kernel
theorem d_ML_filled_16 : decode b_ML_filled 16 = .ok (.invokespecial 129, 3) := by decide +kernel
theorem d_ML_filled_19 : decode b_ML_filled 19 = .ok (.athrow, 1) := by decide +kernel
theorem d_ML_filled_20 : decode b_ML_filled 20 = .ok (.aload_n 0, 1) := by decide +kernel
theorem d_ML_filled_21 : decode b_ML_filled 21 = .ok (.getfield 37, 3) := by decide +kernel
theorem d_ML_filled_24 : decode b_ML_filled 24 = .ok (.iload_n 2, 1) := by decide +kernel
theorem d_ML_filled_25 : decode b_ML_filled 25 = .ok (.iload_n 3, 1) := by decide +kernel
theorem d_ML_filled_26 : decode b_ML_filled 26 = .ok (.invokevirtual 130, 3) := by decide +kernel
theorem d_ML_filled_29 : decode b_ML_filled 29 = .ok (.ifCond .ne 13, 3) := by decide +kernel
theorem d_ML_filled_32 : decode b_ML_filled 32 = .ok (.new 88, 3) := by decide +kernel
theorem d_ML_filled_35 : decode b_ML_filled 35 = .ok (.dup, 1) := by decide +kernel
theorem d_ML_filled_36 : decode b_ML_filled 36 = .ok (.ldc 90, 2) := by decide +kernel
theorem d_ML_filled_38 : decode b_ML_filled 38 = .ok (.invokespecial 92, 3) := by decide +kernel
theorem d_ML_filled_41 : decode b_ML_filled 41 = .ok (.athrow, 1) := by decide +kernel
theorem d_ML_filled_42 : decode b_ML_filled 42 = .ok (.iload_n 1, 1) := by decide +kernel
theorem d_ML_filled_43 : decode b_ML_filled 43 = .ok (.ifCond .eq 18, 3) := by decide +kernel
theorem d_ML_filled_46 : decode b_ML_filled 46 = .ok (.iload_n 1, 1) := by decide +kernel
theorem d_ML_filled_47 : decode b_ML_filled 47 = .ok (.iconst 2, 1) := by decide +kernel
theorem d_ML_filled_48 : decode b_ML_filled 48 = .ok (.if_icmp .eq 13, 3) := by decide +kernel
theorem d_ML_filled_51 : decode b_ML_filled 51 = .ok (.new 96, 3) := by decide +kernel
theorem d_ML_filled_54 : decode b_ML_filled 54 = .ok (.dup, 1) := by decide +kernel
theorem d_ML_filled_55 : decode b_ML_filled 55 = .ok (.ldc 137, 2) := by decide +kernel
theorem d_ML_filled_57 : decode b_ML_filled 57 = .ok (.invokespecial 100, 3) := by decide +kernel
theorem d_ML_filled_60 : decode b_ML_filled 60 = .ok (.athrow, 1) := by decide +kernel
theorem d_ML_filled_61 : decode b_ML_filled 61 = .ok (.aload_n 0, 1) := by decide +kernel
theorem d_ML_filled_62 : decode b_ML_filled 62 = .ok (.getfield 59, 3) := by decide +kernel
theorem d_ML_filled_65 : decode b_ML_filled 65 = .ok (.iload_n 1, 1) := by decide +kernel
theorem d_ML_filled_66 : decode b_ML_filled 66 = .ok (.iload_n 2, 1) := by decide +kernel
theorem d_ML_filled_67 : decode b_ML_filled 67 = .ok (.iload_n 3, 1) := by decide +kernel
theorem d_ML_filled_68 : decode b_ML_filled 68 = .ok (.invokevirtual 139, 3) := by decide +kernel
theorem d_ML_filled_71 : decode b_ML_filled 71 = .ok (.ireturn, 1) := by decide +kernel
abbrev b_ML_joined : ByteArray := prog_1_method_8_code
def y_ML_joined : MethodName := ⟨"MaskLayers", "joined", "(II)I"⟩
theorem d_ML_joined_0 : decode b_ML_joined 0 = .ok (.aload_n 0, 1) := by decide +kernel
theorem d_ML_joined_1 : decode b_ML_joined 1 = .ok (.getfield 37, 3) := by decide +kernel
theorem d_ML_joined_4 : decode b_ML_joined 4 = .ok (.getfield 122, 3) := by decide +kernel
theorem d_ML_joined_7 : decode b_ML_joined 7 = .ok (.ifCond .ne 13, 3) := by decide +kernel
theorem d_ML_joined_10 : decode b_ML_joined 10 = .ok (.new 125, 3) := by decide +kernel
theorem d_ML_joined_13 : decode b_ML_joined 13 = .ok (.dup, 1) := by decide +kernel
theorem d_ML_joined_14 : decode b_ML_joined 14 = .ok (.ldc 127, 2) := by decide +kernel
theorem d_ML_joined_16 : decode b_ML_joined 16 = .ok (.invokespecial 129, 3) := by decide +kernel
theorem d_ML_joined_19 : decode b_ML_joined 19 = .ok (.athrow, 1) := by decide +kernel
theorem d_ML_joined_20 : decode b_ML_joined 20 = .ok (.aload_n 0, 1) := by decide +kernel
theorem d_ML_joined_21 : decode b_ML_joined 21 = .ok (.getfield 37, 3) := by decide +kernel
theorem d_ML_joined_24 : decode b_ML_joined 24 = .ok (.iload_n 1, 1) := by decide +kernel
theorem d_ML_joined_25 : decode b_ML_joined 25 = .ok (.iload_n 2, 1) := by decide +kernel
theorem d_ML_joined_26 : decode b_ML_joined 26 = .ok (.invokevirtual 130, 3) := by decide +kernel
theorem d_ML_joined_29 : decode b_ML_joined 29 = .ok (.ifCond .ne 13, 3) := by decide +kernel
theorem d_ML_joined_32 : decode b_ML_joined 32 = .ok (.new 88, 3) := by decide +kernel
theorem d_ML_joined_35 : decode b_ML_joined 35 = .ok (.dup, 1) := by decide +kernel
theorem d_ML_joined_36 : decode b_ML_joined 36 = .ok (.ldc 90, 2) := by decide +kernel
theorem d_ML_joined_38 : decode b_ML_joined 38 = .ok (.invokespecial 92, 3) := by decide +kernel
theorem d_ML_joined_41 : decode b_ML_joined 41 = .ok (.athrow, 1) := by decide +kernel
theorem d_ML_joined_42 : decode b_ML_joined 42 = .ok (.aload_n 0, 1) := by decide +kernel
theorem d_ML_joined_43 : decode b_ML_joined 43 = .ok (.getfield 37, 3) := by decide +kernel
theorem d_ML_joined_46 : decode b_ML_joined 46 = .ok (.iload_n 1, 1) := by decide +kernel
theorem d_ML_joined_47 : decode b_ML_joined 47 = .ok (.iload_n 2, 1) := by decide +kernel
theorem d_ML_joined_48 : decode b_ML_joined 48 = .ok (.invokevirtual 143, 3) := by decide +kernel
theorem d_ML_joined_51 : decode b_ML_joined 51 = .ok (.ireturn, 1) := by decide +kernel
abbrev b_ML_byteAt : ByteArray := prog_1_method_10_code
def y_ML_byteAt : MethodName := ⟨"MaskLayers", "byteAt", "(I)I"⟩
theorem d_ML_byteAt_0 : decode b_ML_byteAt 0 = .ok (.aload_n 0, 1) := by decide +kernel
theorem d_ML_byteAt_1 : decode b_ML_byteAt 1 = .ok (.getfield 47, 3) := by decide +kernel
theorem d_ML_byteAt_4 : decode b_ML_byteAt 4 = .ok (.iload_n 1, 1) := by decide +kernel
theorem d_ML_byteAt_5 : decode b_ML_byteAt 5 = .ok (.invokevirtual 150, 3) := by decide +kernel
theorem d_ML_byteAt_8 : decode b_ML_byteAt 8 = .ok (.ifCond .ne 13, 3) := by decide +kernel
theorem d_ML_byteAt_11 : decode b_ML_byteAt 11 = .ok (.new 88, 3) := by decide +kernel
theorem d_ML_byteAt_14 : decode b_ML_byteAt 14 = .ok (.dup, 1) := by decide +kernel
theorem d_ML_byteAt_15 : decode b_ML_byteAt 15 = .ok (.ldc 154, 2) := by decide +kernel
theorem d_ML_byteAt_17 : decode b_ML_byteAt 17 = .ok (.invokespecial 92, 3) := by decide +kernel
theorem d_ML_byteAt_20 : decode b_ML_byteAt 20 = .ok (.athrow, 1) := by decide +kernel
theorem d_ML_byteAt_21 : decode b_ML_byteAt 21 = .ok (.aload_n 0, 1) := by decide +kernel
theorem d_ML_byteAt_22 : decode b_ML_byteAt 22 = .ok (.getfield 47, 3) := by decide +kernel
theorem d_ML_byteAt_25 : decode b_ML_byteAt 25 = .ok (.iload_n 1, 1) := by decide +kernel
theorem d_ML_byteAt_26 : decode b_ML_byteAt 26 = .ok (.invokevirtual 156, 3) := by decide +kernel
theorem d_ML_byteAt_29 : decode b_ML_byteAt 29 = .ok (.ireturn, 1) := by decide +kernel
abbrev b_ML_at : ByteArray := prog_1_method_15_code
def y_ML_at : MethodName := ⟨"MaskLayers", "at", "(II)I"⟩
theorem d_ML_at_0 : decode b_ML_at 0 = .ok (.aload_n 0, 1) := by decide +kernel
theorem d_ML_at_1 : decode b_ML_at 1 = .ok (.getfield 41, 3) := by decide +kernel
theorem d_ML_at_4 : decode b_ML_at 4 = .ok (.getfield 122, 3) := by decide +kernel
theorem d_ML_at_7 : decode b_ML_at 7 = .ok (.ifCond .ne 13, 3) := by decide +kernel
theorem d_ML_at_10 : decode b_ML_at 10 = .ok (.new 125, 3) := by decide +kernel
theorem d_ML_at_13 : decode b_ML_at 13 = .ok (.dup, 1) := by decide +kernel
theorem d_ML_at_14 : decode b_ML_at 14 = .ok (.ldc 184, 2) := by decide +kernel
theorem d_ML_at_16 : decode b_ML_at 16 = .ok (.invokespecial 129, 3) := by decide +kernel
theorem d_ML_at_19 : decode b_ML_at 19 = .ok (.athrow, 1) := by decide +kernel
theorem d_ML_at_20 : decode b_ML_at 20 = .ok (.aload_n 0, 1) := by decide +kernel
theorem d_ML_at_21 : decode b_ML_at 21 = .ok (.getfield 41, 3) := by decide +kernel
theorem d_ML_at_24 : decode b_ML_at 24 = .ok (.iload_n 1, 1) := by decide +kernel
theorem d_ML_at_25 : decode b_ML_at 25 = .ok (.iload_n 2, 1) := by decide +kernel
theorem d_ML_at_26 : decode b_ML_at 26 = .ok (.invokevirtual 130, 3) := by decide +kernel
theorem d_ML_at_29 : decode b_ML_at 29 = .ok (.ifCond .ne 13, 3) := by decide +kernel
theorem d_ML_at_32 : decode b_ML_at 32 = .ok (.new 88, 3) := by decide +kernel
theorem d_ML_at_35 : decode b_ML_at 35 = .ok (.dup, 1) := by decide +kernel
theorem d_ML_at_36 : decode b_ML_at 36 = .ok (.ldc 90, 2) := by decide +kernel
theorem d_ML_at_38 : decode b_ML_at 38 = .ok (.invokespecial 92, 3) := by decide +kernel
theorem d_ML_at_41 : decode b_ML_at 41 = .ok (.athrow, 1) := by decide +kernel
theorem d_ML_at_42 : decode b_ML_at 42 = .ok (.aload_n 0, 1) := by decide +kernel
theorem d_ML_at_43 : decode b_ML_at 43 = .ok (.getfield 41, 3) := by decide +kernel
theorem d_ML_at_46 : decode b_ML_at 46 = .ok (.iload_n 1, 1) := by decide +kernel
theorem d_ML_at_47 : decode b_ML_at 47 = .ok (.iload_n 2, 1) := by decide +kernel
theorem d_ML_at_48 : decode b_ML_at 48 = .ok (.invokevirtual 186, 3) := by decide +kernel
theorem d_ML_at_51 : decode b_ML_at 51 = .ok (.ireturn, 1) := by decide +kernel
abbrev b_ML_told : ByteArray := prog_1_method_16_code
def y_ML_told : MethodName := ⟨"MaskLayers", "told", "(I)I"⟩
theorem d_ML_told_0 : decode b_ML_told 0 = .ok (.iload_n 1, 1) := by decide +kernel
theorem d_ML_told_1 : decode b_ML_told 1 = .ok (.tableswitch 146 0 8 #[51, 56, 61, 73, 78, 86, 94, 116, 138], 51) := by decide +kernel
theorem d_ML_told_52 : decode b_ML_told 52 = .ok (.aload_n 0, 1) := by decide +kernel
theorem d_ML_told_53 : decode b_ML_told 53 = .ok (.getfield 18, 3) := by decide +kernel
theorem d_ML_told_56 : decode b_ML_told 56 = .ok (.ireturn, 1) := by decide +kernel
theorem d_ML_told_57 : decode b_ML_told 57 = .ok (.aload_n 0, 1) := by decide +kernel
theorem d_ML_told_58 : decode b_ML_told 58 = .ok (.getfield 22, 3) := by decide +kernel
theorem d_ML_told_61 : decode b_ML_told 61 = .ok (.ireturn, 1) := by decide +kernel
theorem d_ML_told_62 : decode b_ML_told 62 = .ok (.aload_n 0, 1) := by decide +kernel
theorem d_ML_told_63 : decode b_ML_told 63 = .ok (.getfield 22, 3) := by decide +kernel
theorem d_ML_told_66 : decode b_ML_told 66 = .ok (.aload_n 0, 1) := by decide +kernel
theorem d_ML_told_67 : decode b_ML_told 67 = .ok (.getfield 81, 3) := by decide +kernel
theorem d_ML_told_70 : decode b_ML_told 70 = .ok (.invokestatic 109, 3) := by decide +kernel
theorem d_ML_told_73 : decode b_ML_told 73 = .ok (.ireturn, 1) := by decide +kernel
theorem d_ML_told_74 : decode b_ML_told 74 = .ok (.aload_n 0, 1) := by decide +kernel
theorem d_ML_told_75 : decode b_ML_told 75 = .ok (.invokevirtual 189, 3) := by decide +kernel
theorem d_ML_told_78 : decode b_ML_told 78 = .ok (.ireturn, 1) := by decide +kernel
theorem d_ML_told_79 : decode b_ML_told 79 = .ok (.aload_n 0, 1) := by decide +kernel
theorem d_ML_told_80 : decode b_ML_told 80 = .ok (.getfield 47, 3) := by decide +kernel
theorem d_ML_told_83 : decode b_ML_told 83 = .ok (.getfield 175, 3) := by decide +kernel
theorem d_ML_told_86 : decode b_ML_told 86 = .ok (.ireturn, 1) := by decide +kernel
theorem d_ML_told_87 : decode b_ML_told 87 = .ok (.aload_n 0, 1) := by decide +kernel
theorem d_ML_told_88 : decode b_ML_told 88 = .ok (.getfield 51, 3) := by decide +kernel
theorem d_ML_told_91 : decode b_ML_told 91 = .ok (.getfield 175, 3) := by decide +kernel
theorem d_ML_told_94 : decode b_ML_told 94 = .ok (.ireturn, 1) := by decide +kernel
theorem d_ML_told_95 : decode b_ML_told 95 = .ok (.aload_n 0, 1) := by decide +kernel
theorem d_ML_told_96 : decode b_ML_told 96 = .ok (.getfield 41, 3) := by decide +kernel
theorem d_ML_told_99 : decode b_ML_told 99 = .ok (.getfield 122, 3) := by decide +kernel
theorem d_ML_told_102 : decode b_ML_told 102 = .ok (.ifCond .ne 7, 3) := by decide +kernel
theorem d_ML_told_105 : decode b_ML_told 105 = .ok (.iconst 0, 1) := by decide +kernel
theorem d_ML_told_106 : decode b_ML_told 106 = .ok (.goto 10, 3) := by decide +kernel
theorem d_ML_told_109 : decode b_ML_told 109 = .ok (.aload_n 0, 1) := by decide +kernel
theorem d_ML_told_110 : decode b_ML_told 110 = .ok (.getfield 41, 3) := by decide +kernel
theorem d_ML_told_113 : decode b_ML_told 113 = .ok (.getfield 192, 3) := by decide +kernel
theorem d_ML_told_116 : decode b_ML_told 116 = .ok (.ireturn, 1) := by decide +kernel
theorem d_ML_told_117 : decode b_ML_told 117 = .ok (.aload_n 0, 1) := by decide +kernel
theorem d_ML_told_118 : decode b_ML_told 118 = .ok (.getfield 41, 3) := by decide +kernel
theorem d_ML_told_121 : decode b_ML_told 121 = .ok (.getfield 122, 3) := by decide +kernel
theorem d_ML_told_124 : decode b_ML_told 124 = .ok (.ifCond .ne 7, 3) := by decide +kernel
theorem d_ML_told_127 : decode b_ML_told 127 = .ok (.iconst 0, 1) := by decide +kernel
theorem d_ML_told_128 : decode b_ML_told 128 = .ok (.goto 10, 3) := by decide +kernel
theorem d_ML_told_131 : decode b_ML_told 131 = .ok (.aload_n 0, 1) := by decide +kernel
theorem d_ML_told_132 : decode b_ML_told 132 = .ok (.getfield 41, 3) := by decide +kernel
theorem d_ML_told_135 : decode b_ML_told 135 = .ok (.getfield 193, 3) := by decide +kernel
theorem d_ML_told_138 : decode b_ML_told 138 = .ok (.ireturn, 1) := by decide +kernel
theorem d_ML_told_139 : decode b_ML_told 139 = .ok (.aload_n 0, 1) := by decide +kernel
theorem d_ML_told_140 : decode b_ML_told 140 = .ok (.getfield 37, 3) := by decide +kernel
theorem d_ML_told_143 : decode b_ML_told 143 = .ok (.getfield 122, 3) := by decide +kernel
theorem d_ML_told_146 : decode b_ML_told 146 = .ok (.ireturn, 1) := by decide +kernel
theorem d_ML_told_147 : decode b_ML_told 147 = .ok (.iconst (-1), 1) := by decide +kernel
theorem d_ML_told_148 : decode b_ML_told 148 = .ok (.ireturn, 1) := by decide +kernel
abbrev b_ML_change : ByteArray := prog_1_method_19_code
def y_ML_change : MethodName := ⟨"MaskLayers", "change", "([IIIII)I"⟩
theorem d_ML_change_0 : decode b_ML_change 0 = .ok (.iconst 0, 1) := by decide +kernel
theorem d_ML_change_1 : decode b_ML_change 1 = .ok (.istore 6, 2) := by decide +kernel
theorem d_ML_change_3 : decode b_ML_change 3 = .ok (.iload_n 3, 1) := by decide +kernel
theorem d_ML_change_4 : decode b_ML_change 4 = .ok (.aload_n 0, 1) := by decide +kernel
theorem d_ML_change_5 : decode b_ML_change 5 = .ok (.getfield 18, 3) := by decide +kernel
theorem d_ML_change_8 : decode b_ML_change 8 = .ok (.imul, 1) := by decide +kernel
theorem d_ML_change_9 : decode b_ML_change 9 = .ok (.iload_n 2, 1) := by decide +kernel
theorem d_ML_change_10 : decode b_ML_change 10 = .ok (.iadd, 1) := by decide +kernel
theorem d_ML_change_11 : decode b_ML_change 11 = .ok (.istore 7, 2) := by decide +kernel
theorem d_ML_change_13 : decode b_ML_change 13 = .ok (.iload 7, 2) := by decide +kernel
theorem d_ML_change_15 : decode b_ML_change 15 = .ok (.iload 4, 2) := by decide +kernel
theorem d_ML_change_17 : decode b_ML_change 17 = .ok (.aload_n 0, 1) := by decide +kernel
theorem d_ML_change_18 : decode b_ML_change 18 = .ok (.getfield 18, 3) := by decide +kernel
theorem d_ML_change_21 : decode b_ML_change 21 = .ok (.iload_n 2, 1) := by decide +kernel
theorem d_ML_change_22 : decode b_ML_change 22 = .ok (.isub, 1) := by decide +kernel
theorem d_ML_change_23 : decode b_ML_change 23 = .ok (.invokestatic 9, 3) := by decide +kernel
theorem d_ML_change_26 : decode b_ML_change 26 = .ok (.iadd, 1) := by decide +kernel
theorem d_ML_change_27 : decode b_ML_change 27 = .ok (.istore 8, 2) := by decide +kernel
theorem d_ML_change_29 : decode b_ML_change 29 = .ok (.iload 7, 2) := by decide +kernel
theorem d_ML_change_31 : decode b_ML_change 31 = .ok (.istore 9, 2) := by decide +kernel
theorem d_ML_change_33 : decode b_ML_change 33 = .ok (.iload 9, 2) := by decide +kernel
theorem d_ML_change_35 : decode b_ML_change 35 = .ok (.iload 8, 2) := by decide +kernel
theorem d_ML_change_37 : decode b_ML_change 37 = .ok (.if_icmp .ge 27, 3) := by decide +kernel
theorem d_ML_change_40 : decode b_ML_change 40 = .ok (.aload_n 1, 1) := by decide +kernel
theorem d_ML_change_41 : decode b_ML_change 41 = .ok (.iload 9, 2) := by decide +kernel
theorem d_ML_change_43 : decode b_ML_change 43 = .ok (.iaload, 1) := by decide +kernel
theorem d_ML_change_44 : decode b_ML_change 44 = .ok (.iload 5, 2) := by decide +kernel
theorem d_ML_change_46 : decode b_ML_change 46 = .ok (.if_icmp .eq 12, 3) := by decide +kernel
theorem d_ML_change_49 : decode b_ML_change 49 = .ok (.aload_n 1, 1) := by decide +kernel
theorem d_ML_change_50 : decode b_ML_change 50 = .ok (.iload 9, 2) := by decide +kernel
theorem d_ML_change_52 : decode b_ML_change 52 = .ok (.iload 5, 2) := by decide +kernel
theorem d_ML_change_54 : decode b_ML_change 54 = .ok (.iastore, 1) := by decide +kernel
theorem d_ML_change_55 : decode b_ML_change 55 = .ok (.iinc 6 1, 3) := by decide +kernel
theorem d_ML_change_58 : decode b_ML_change 58 = .ok (.iinc 9 1, 3) := by decide +kernel
theorem d_ML_change_61 : decode b_ML_change 61 = .ok (.goto (-28), 3) := by decide +kernel
theorem d_ML_change_64 : decode b_ML_change 64 = .ok (.iload 6, 2) := by decide +kernel
theorem d_ML_change_66 : decode b_ML_change 66 = .ok (.ireturn, 1) := by decide +kernel
abbrev b_ML_put : ByteArray := prog_1_method_2_code
def y_ML_put : MethodName := ⟨"MaskLayers", "put", "(IIII)I"⟩
theorem d_ML_put_0 : decode b_ML_put 0 = .ok (.aload_n 0, 1) := by decide +kernel
theorem d_ML_put_1 : decode b_ML_put 1 = .ok (.iload_n 1, 1) := by decide +kernel
theorem d_ML_put_2 : decode b_ML_put 2 = .ok (.iload_n 2, 1) := by decide +kernel
theorem d_ML_put_3 : decode b_ML_put 3 = .ok (.invokevirtual 84, 3) := by decide +kernel
theorem d_ML_put_6 : decode b_ML_put 6 = .ok (.ifCond .ne 13, 3) := by decide +kernel
theorem d_ML_put_9 : decode b_ML_put 9 = .ok (.new 88, 3) := by decide +kernel
theorem d_ML_put_12 : decode b_ML_put 12 = .ok (.dup, 1) := by decide +kernel
theorem d_ML_put_13 : decode b_ML_put 13 = .ok (.ldc 90, 2) := by decide +kernel
theorem d_ML_put_15 : decode b_ML_put 15 = .ok (.invokespecial 92, 3) := by decide +kernel
theorem d_ML_put_18 : decode b_ML_put 18 = .ok (.athrow, 1) := by decide +kernel
theorem d_ML_put_19 : decode b_ML_put 19 = .ok (.iload_n 3, 1) := by decide +kernel
theorem d_ML_put_20 : decode b_ML_put 20 = .ok (.iconst 1, 1) := by decide +kernel
theorem d_ML_put_21 : decode b_ML_put 21 = .ok (.if_icmp .lt 15, 3) := by decide +kernel
theorem d_ML_put_24 : decode b_ML_put 24 = .ok (.iload 4, 2) := by decide +kernel
theorem d_ML_put_26 : decode b_ML_put 26 = .ok (.ifCond .lt 10, 3) := by decide +kernel
theorem d_ML_put_29 : decode b_ML_put 29 = .ok (.iload 4, 2) := by decide +kernel
theorem d_ML_put_31 : decode b_ML_put 31 = .ok (.ldc 95, 2) := by decide +kernel
theorem d_ML_put_33 : decode b_ML_put 33 = .ok (.if_icmp .le 13, 3) := by decide +kernel
theorem d_ML_put_36 : decode b_ML_put 36 = .ok (.new 96, 3) := by decide +kernel
theorem d_ML_put_39 : decode b_ML_put 39 = .ok (.dup, 1) := by decide +kernel
theorem d_ML_put_40 : decode b_ML_put 40 = .ok (.ldc 98, 2) := by decide +kernel
theorem d_ML_put_42 : decode b_ML_put 42 = .ok (.invokespecial 100, 3) := by decide +kernel
theorem d_ML_put_45 : decode b_ML_put 45 = .ok (.athrow, 1) := by decide +kernel
theorem d_ML_put_46 : decode b_ML_put 46 = .ok (.aload_n 0, 1) := by decide +kernel
theorem d_ML_put_47 : decode b_ML_put 47 = .ok (.aload_n 0, 1) := by decide +kernel
theorem d_ML_put_48 : decode b_ML_put 48 = .ok (.getfield 25, 3) := by decide +kernel
theorem d_ML_put_51 : decode b_ML_put 51 = .ok (.iload_n 1, 1) := by decide +kernel
theorem d_ML_put_52 : decode b_ML_put 52 = .ok (.iload_n 2, 1) := by decide +kernel
theorem d_ML_put_53 : decode b_ML_put 53 = .ok (.iload_n 3, 1) := by decide +kernel
theorem d_ML_put_54 : decode b_ML_put 54 = .ok (.iload 4, 2) := by decide +kernel
theorem d_ML_put_56 : decode b_ML_put 56 = .ok (.invokevirtual 101, 3) := by decide +kernel
theorem d_ML_put_59 : decode b_ML_put 59 = .ok (.ireturn, 1) := by decide +kernel
abbrev b_ML_mask : ByteArray := prog_1_method_3_code
def y_ML_mask : MethodName := ⟨"MaskLayers", "mask", "(IIIZ)I"⟩
theorem d_ML_mask_0 : decode b_ML_mask 0 = .ok (.aload_n 0, 1) := by decide +kernel
theorem d_ML_mask_1 : decode b_ML_mask 1 = .ok (.iload_n 1, 1) := by decide +kernel
theorem d_ML_mask_2 : decode b_ML_mask 2 = .ok (.iload_n 2, 1) := by decide +kernel
theorem d_ML_mask_3 : decode b_ML_mask 3 = .ok (.invokevirtual 84, 3) := by decide +kernel
theorem d_ML_mask_6 : decode b_ML_mask 6 = .ok (.ifCond .ne 13, 3) := by decide +kernel
theorem d_ML_mask_9 : decode b_ML_mask 9 = .ok (.new 88, 3) := by decide +kernel
theorem d_ML_mask_12 : decode b_ML_mask 12 = .ok (.dup, 1) := by decide +kernel
theorem d_ML_mask_13 : decode b_ML_mask 13 = .ok (.ldc 90, 2) := by decide +kernel
theorem d_ML_mask_15 : decode b_ML_mask 15 = .ok (.invokespecial 92, 3) := by decide +kernel
theorem d_ML_mask_18 : decode b_ML_mask 18 = .ok (.athrow, 1) := by decide +kernel
theorem d_ML_mask_19 : decode b_ML_mask 19 = .ok (.iload_n 3, 1) := by decide +kernel
theorem d_ML_mask_20 : decode b_ML_mask 20 = .ok (.iconst 1, 1) := by decide +kernel
theorem d_ML_mask_21 : decode b_ML_mask 21 = .ok (.if_icmp .ge 13, 3) := by decide +kernel
theorem d_ML_mask_24 : decode b_ML_mask 24 = .ok (.new 96, 3) := by decide +kernel
theorem d_ML_mask_27 : decode b_ML_mask 27 = .ok (.dup, 1) := by decide +kernel
theorem d_ML_mask_28 : decode b_ML_mask 28 = .ok (.ldc 105, 2) := by decide +kernel
theorem d_ML_mask_30 : decode b_ML_mask 30 = .ok (.invokespecial 100, 3) := by decide +kernel
theorem d_ML_mask_33 : decode b_ML_mask 33 = .ok (.athrow, 1) := by decide +kernel
theorem d_ML_mask_34 : decode b_ML_mask 34 = .ok (.aload_n 0, 1) := by decide +kernel
theorem d_ML_mask_35 : decode b_ML_mask 35 = .ok (.aload_n 0, 1) := by decide +kernel
theorem d_ML_mask_36 : decode b_ML_mask 36 = .ok (.getfield 29, 3) := by decide +kernel
theorem d_ML_mask_39 : decode b_ML_mask 39 = .ok (.iload_n 1, 1) := by decide +kernel
theorem d_ML_mask_40 : decode b_ML_mask 40 = .ok (.iload_n 2, 1) := by decide +kernel
theorem d_ML_mask_41 : decode b_ML_mask 41 = .ok (.iload_n 3, 1) := by decide +kernel
theorem d_ML_mask_42 : decode b_ML_mask 42 = .ok (.iload 4, 2) := by decide +kernel
theorem d_ML_mask_44 : decode b_ML_mask 44 = .ok (.ifCond .eq 7, 3) := by decide +kernel
theorem d_ML_mask_47 : decode b_ML_mask 47 = .ok (.iconst 1, 1) := by decide +kernel
theorem d_ML_mask_48 : decode b_ML_mask 48 = .ok (.goto 4, 3) := by decide +kernel
theorem d_ML_mask_51 : decode b_ML_mask 51 = .ok (.iconst 0, 1) := by decide +kernel
theorem d_ML_mask_52 : decode b_ML_mask 52 = .ok (.invokevirtual 101, 3) := by decide +kernel
theorem d_ML_mask_55 : decode b_ML_mask 55 = .ok (.ireturn, 1) := by decide +kernel
abbrev b_ML_stripe : ByteArray := prog_1_method_4_code
def y_ML_stripe : MethodName := ⟨"MaskLayers", "stripe", "(I)I"⟩
theorem d_ML_stripe_0 : decode b_ML_stripe 0 = .ok (.iload_n 1, 1) := by decide +kernel
theorem d_ML_stripe_1 : decode b_ML_stripe 1 = .ok (.iconst 1, 1) := by decide +kernel
theorem d_ML_stripe_2 : decode b_ML_stripe 2 = .ok (.if_icmp .lt 9, 3) := by decide +kernel
theorem d_ML_stripe_5 : decode b_ML_stripe 5 = .ok (.iload_n 1, 1) := by decide +kernel
theorem d_ML_stripe_6 : decode b_ML_stripe 6 = .ok (.bipush 24, 2) := by decide +kernel
theorem d_ML_stripe_8 : decode b_ML_stripe 8 = .ok (.if_icmp .le 13, 3) := by decide +kernel
theorem d_ML_stripe_11 : decode b_ML_stripe 11 = .ok (.new 96, 3) := by decide +kernel
theorem d_ML_stripe_14 : decode b_ML_stripe 14 = .ok (.dup, 1) := by decide +kernel
theorem d_ML_stripe_15 : decode b_ML_stripe 15 = .ok (.ldc 107, 2) := by decide +kernel
theorem d_ML_stripe_17 : decode b_ML_stripe 17 = .ok (.invokespecial 100, 3) := by decide +kernel
theorem d_ML_stripe_20 : decode b_ML_stripe 20 = .ok (.athrow, 1) := by decide +kernel
theorem d_ML_stripe_21 : decode b_ML_stripe 21 = .ok (.aload_n 0, 1) := by decide +kernel
theorem d_ML_stripe_22 : decode b_ML_stripe 22 = .ok (.iload_n 1, 1) := by decide +kernel
theorem d_ML_stripe_23 : decode b_ML_stripe 23 = .ok (.putfield 81, 3) := by decide +kernel
theorem d_ML_stripe_26 : decode b_ML_stripe 26 = .ok (.aload_n 0, 1) := by decide +kernel
theorem d_ML_stripe_27 : decode b_ML_stripe 27 = .ok (.getfield 22, 3) := by decide +kernel
theorem d_ML_stripe_30 : decode b_ML_stripe 30 = .ok (.iload_n 1, 1) := by decide +kernel
theorem d_ML_stripe_31 : decode b_ML_stripe 31 = .ok (.invokestatic 109, 3) := by decide +kernel
theorem d_ML_stripe_34 : decode b_ML_stripe 34 = .ok (.ireturn, 1) := by decide +kernel
abbrev b_ML_run : ByteArray := prog_1_method_5_code
def y_ML_run : MethodName := ⟨"MaskLayers", "run", "(IIZ)I"⟩
theorem d_ML_run_0 : decode b_ML_run 0 = .ok (.iload_n 1, 1) := by decide +kernel
theorem d_ML_run_1 : decode b_ML_run 1 = .ok (.iconst 1, 1) := by decide +kernel
theorem d_ML_run_2 : decode b_ML_run 2 = .ok (.if_icmp .lt 20, 3) := by decide +kernel
theorem d_ML_run_5 : decode b_ML_run 5 = .ok (.iload_n 1, 1) := by decide +kernel
theorem d_ML_run_6 : decode b_ML_run 6 = .ok (.bipush 8, 2) := by decide +kernel
theorem d_ML_run_8 : decode b_ML_run 8 = .ok (.if_icmp .gt 14, 3) := by decide +kernel
theorem d_ML_run_11 : decode b_ML_run 11 = .ok (.iload_n 2, 1) := by decide +kernel
theorem d_ML_run_12 : decode b_ML_run 12 = .ok (.iconst 1, 1) := by decide +kernel
theorem d_ML_run_13 : decode b_ML_run 13 = .ok (.if_icmp .lt 9, 3) := by decide +kernel
theorem d_ML_run_16 : decode b_ML_run 16 = .ok (.iload_n 2, 1) := by decide +kernel
theorem d_ML_run_17 : decode b_ML_run 17 = .ok (.bipush 8, 2) := by decide +kernel
theorem d_ML_run_19 : decode b_ML_run 19 = .ok (.if_icmp .le 13, 3) := by decide +kernel
theorem d_ML_run_22 : decode b_ML_run 22 = .ok (.new 96, 3) := by decide +kernel
theorem d_ML_run_25 : decode b_ML_run 25 = .ok (.dup, 1) := by decide +kernel
theorem d_ML_run_26 : decode b_ML_run 26 = .ok (.ldc 112, 2) := by decide +kernel
theorem d_ML_run_28 : decode b_ML_run 28 = .ok (.invokespecial 100, 3) := by decide +kernel
theorem d_ML_run_31 : decode b_ML_run 31 = .ok (.athrow, 1) := by decide +kernel
theorem d_ML_run_32 : decode b_ML_run 32 = .ok (.aload_n 0, 1) := by decide +kernel
theorem d_ML_run_33 : decode b_ML_run 33 = .ok (.getfield 37, 3) := by decide +kernel
theorem d_ML_run_36 : decode b_ML_run 36 = .ok (.aload_n 0, 1) := by decide +kernel
theorem d_ML_run_37 : decode b_ML_run 37 = .ok (.getfield 18, 3) := by decide +kernel
theorem d_ML_run_40 : decode b_ML_run 40 = .ok (.aload_n 0, 1) := by decide +kernel
theorem d_ML_run_41 : decode b_ML_run 41 = .ok (.getfield 22, 3) := by decide +kernel
theorem d_ML_run_44 : decode b_ML_run 44 = .ok (.aload_n 0, 1) := by decide +kernel
theorem d_ML_run_45 : decode b_ML_run 45 = .ok (.getfield 81, 3) := by decide +kernel
theorem d_ML_run_48 : decode b_ML_run 48 = .ok (.iload_n 1, 1) := by decide +kernel
theorem d_ML_run_49 : decode b_ML_run 49 = .ok (.iload_n 2, 1) := by decide +kernel
theorem d_ML_run_50 : decode b_ML_run 50 = .ok (.invokevirtual 114, 3) := by decide +kernel
theorem d_ML_run_53 : decode b_ML_run 53 = .ok (.aload_n 0, 1) := by decide +kernel
theorem d_ML_run_54 : decode b_ML_run 54 = .ok (.getfield 59, 3) := by decide +kernel
theorem d_ML_run_57 : decode b_ML_run 57 = .ok (.iload_n 3, 1) := by decide +kernel
theorem d_ML_run_58 : decode b_ML_run 58 = .ok (.invokevirtual 118, 3) := by decide +kernel
theorem d_ML_run_61 : decode b_ML_run 61 = .ok (.ireturn, 1) := by decide +kernel
abbrev b_ML_alter : ByteArray := prog_1_method_13_code
def y_ML_alter : MethodName := ⟨"MaskLayers", "alter", "(II)I"⟩
theorem d_ML_alter_0 : decode b_ML_alter 0 = .ok (.aload_n 0, 1) := by decide +kernel
theorem d_ML_alter_1 : decode b_ML_alter 1 = .ok (.getfield 51, 3) := by decide +kernel
theorem d_ML_alter_4 : decode b_ML_alter 4 = .ok (.iload_n 1, 1) := by decide +kernel
theorem d_ML_alter_5 : decode b_ML_alter 5 = .ok (.invokevirtual 150, 3) := by decide +kernel
theorem d_ML_alter_8 : decode b_ML_alter 8 = .ok (.ifCond .ne 13, 3) := by decide +kernel
theorem d_ML_alter_11 : decode b_ML_alter 11 = .ok (.new 88, 3) := by decide +kernel
theorem d_ML_alter_14 : decode b_ML_alter 14 = .ok (.dup, 1) := by decide +kernel
theorem d_ML_alter_15 : decode b_ML_alter 15 = .ok (.ldc 154, 2) := by decide +kernel
theorem d_ML_alter_17 : decode b_ML_alter 17 = .ok (.invokespecial 92, 3) := by decide +kernel
theorem d_ML_alter_20 : decode b_ML_alter 20 = .ok (.athrow, 1) := by decide +kernel
theorem d_ML_alter_21 : decode b_ML_alter 21 = .ok (.iload_n 2, 1) := by decide +kernel
theorem d_ML_alter_22 : decode b_ML_alter 22 = .ok (.invokestatic 159, 3) := by decide +kernel
theorem d_ML_alter_25 : decode b_ML_alter 25 = .ok (.ifCond .ne 13, 3) := by decide +kernel
theorem d_ML_alter_28 : decode b_ML_alter 28 = .ok (.new 96, 3) := by decide +kernel
theorem d_ML_alter_31 : decode b_ML_alter 31 = .ok (.dup, 1) := by decide +kernel
theorem d_ML_alter_32 : decode b_ML_alter 32 = .ok (.ldc 162, 2) := by decide +kernel
theorem d_ML_alter_34 : decode b_ML_alter 34 = .ok (.invokespecial 100, 3) := by decide +kernel
theorem d_ML_alter_37 : decode b_ML_alter 37 = .ok (.athrow, 1) := by decide +kernel
theorem d_ML_alter_38 : decode b_ML_alter 38 = .ok (.aload_n 0, 1) := by decide +kernel
theorem d_ML_alter_39 : decode b_ML_alter 39 = .ok (.getfield 51, 3) := by decide +kernel
theorem d_ML_alter_42 : decode b_ML_alter 42 = .ok (.iload_n 1, 1) := by decide +kernel
theorem d_ML_alter_43 : decode b_ML_alter 43 = .ok (.iload_n 2, 1) := by decide +kernel
theorem d_ML_alter_44 : decode b_ML_alter 44 = .ok (.invokevirtual 178, 3) := by decide +kernel
theorem d_ML_alter_47 : decode b_ML_alter 47 = .ok (.ireturn, 1) := by decide +kernel
abbrev b_ML_read : ByteArray := prog_1_method_14_code
def y_ML_read : MethodName := ⟨"MaskLayers", "read", "()I"⟩
theorem d_ML_read_0 : decode b_ML_read 0 = .ok (.aload_n 0, 1) := by decide +kernel
theorem d_ML_read_1 : decode b_ML_read 1 = .ok (.getfield 77, 3) := by decide +kernel
theorem d_ML_read_4 : decode b_ML_read 4 = .ok (.invokevirtual 181, 3) := by decide +kernel
theorem d_ML_read_7 : decode b_ML_read 7 = .ok (.ireturn, 1) := by decide +kernel
abbrev b_ML_clear : ByteArray := prog_1_method_17_code
def y_ML_clear : MethodName := ⟨"MaskLayers", "clear", "()V"⟩
theorem d_ML_clear_0 : decode b_ML_clear 0 = .ok (.aload_n 0, 1) := by decide +kernel
theorem d_ML_clear_1 : decode b_ML_clear 1 = .ok (.getfield 25, 3) := by decide +kernel
theorem d_ML_clear_4 : decode b_ML_clear 4 = .ok (.iconst 0, 1) := by decide +kernel
theorem d_ML_clear_5 : decode b_ML_clear 5 = .ok (.invokestatic 194, 3) := by decide +kernel
theorem d_ML_clear_8 : decode b_ML_clear 8 = .ok (.aload_n 0, 1) := by decide +kernel
theorem d_ML_clear_9 : decode b_ML_clear 9 = .ok (.getfield 29, 3) := by decide +kernel
theorem d_ML_clear_12 : decode b_ML_clear 12 = .ok (.iconst 0, 1) := by decide +kernel
theorem d_ML_clear_13 : decode b_ML_clear 13 = .ok (.invokestatic 194, 3) := by decide +kernel
theorem d_ML_clear_16 : decode b_ML_clear 16 = .ok (.aload_n 0, 1) := by decide +kernel
theorem d_ML_clear_17 : decode b_ML_clear 17 = .ok (.bipush 24, 2) := by decide +kernel
theorem d_ML_clear_19 : decode b_ML_clear 19 = .ok (.putfield 81, 3) := by decide +kernel
theorem d_ML_clear_22 : decode b_ML_clear 22 = .ok (.aload_n 0, 1) := by decide +kernel
theorem d_ML_clear_23 : decode b_ML_clear 23 = .ok (.getfield 37, 3) := by decide +kernel
theorem d_ML_clear_26 : decode b_ML_clear 26 = .ok (.invokevirtual 200, 3) := by decide +kernel
theorem d_ML_clear_29 : decode b_ML_clear 29 = .ok (.aload_n 0, 1) := by decide +kernel
theorem d_ML_clear_30 : decode b_ML_clear 30 = .ok (.getfield 41, 3) := by decide +kernel
theorem d_ML_clear_33 : decode b_ML_clear 33 = .ok (.invokevirtual 200, 3) := by decide +kernel
theorem d_ML_clear_36 : decode b_ML_clear 36 = .ok (.aload_n 0, 1) := by decide +kernel
theorem d_ML_clear_37 : decode b_ML_clear 37 = .ok (.getfield 47, 3) := by decide +kernel
theorem d_ML_clear_40 : decode b_ML_clear 40 = .ok (.invokevirtual 203, 3) := by decide +kernel
theorem d_ML_clear_43 : decode b_ML_clear 43 = .ok (.aload_n 0, 1) := by decide +kernel
theorem d_ML_clear_44 : decode b_ML_clear 44 = .ok (.getfield 51, 3) := by decide +kernel
theorem d_ML_clear_47 : decode b_ML_clear 47 = .ok (.invokevirtual 203, 3) := by decide +kernel
theorem d_ML_clear_50 : decode b_ML_clear 50 = .ok (.return_, 1) := by decide +kernel
abbrev b_ML_write : ByteArray := prog_1_method_9_code
def y_ML_write : MethodName := ⟨"MaskLayers", "write", "()I"⟩
theorem d_ML_write_0 : decode b_ML_write 0 = .ok (.aload_n 0, 1) := by decide +kernel
theorem d_ML_write_1 : decode b_ML_write 1 = .ok (.getfield 37, 3) := by decide +kernel
theorem d_ML_write_4 : decode b_ML_write 4 = .ok (.getfield 122, 3) := by decide +kernel
theorem d_ML_write_7 : decode b_ML_write 7 = .ok (.ifCond .ne 13, 3) := by decide +kernel
theorem d_ML_write_10 : decode b_ML_write 10 = .ok (.new 125, 3) := by decide +kernel
theorem d_ML_write_13 : decode b_ML_write 13 = .ok (.dup, 1) := by decide +kernel
theorem d_ML_write_14 : decode b_ML_write 14 = .ok (.ldc 127, 2) := by decide +kernel
theorem d_ML_write_16 : decode b_ML_write 16 = .ok (.invokespecial 129, 3) := by decide +kernel
theorem d_ML_write_19 : decode b_ML_write 19 = .ok (.athrow, 1) := by decide +kernel
theorem d_ML_write_20 : decode b_ML_write 20 = .ok (.aload_n 0, 1) := by decide +kernel
theorem d_ML_write_21 : decode b_ML_write 21 = .ok (.getfield 68, 3) := by decide +kernel
theorem d_ML_write_24 : decode b_ML_write 24 = .ok (.invokevirtual 146, 3) := by decide +kernel
theorem d_ML_write_27 : decode b_ML_write 27 = .ok (.ireturn, 1) := by decide +kernel
abbrev b_ML_feed : ByteArray := prog_1_method_11_code
def y_ML_feed : MethodName := ⟨"MaskLayers", "feed", "(I)I"⟩
theorem d_ML_feed_0 : decode b_ML_feed 0 = .ok (.iload_n 1, 1) := by decide +kernel
theorem d_ML_feed_1 : decode b_ML_feed 1 = .ok (.invokestatic 159, 3) := by decide +kernel
theorem d_ML_feed_4 : decode b_ML_feed 4 = .ok (.ifCond .ne 13, 3) := by decide +kernel
theorem d_ML_feed_7 : decode b_ML_feed 7 = .ok (.new 96, 3) := by decide +kernel
theorem d_ML_feed_10 : decode b_ML_feed 10 = .ok (.dup, 1) := by decide +kernel
theorem d_ML_feed_11 : decode b_ML_feed 11 = .ok (.ldc 162, 2) := by decide +kernel
theorem d_ML_feed_13 : decode b_ML_feed 13 = .ok (.invokespecial 100, 3) := by decide +kernel
theorem d_ML_feed_16 : decode b_ML_feed 16 = .ok (.athrow, 1) := by decide +kernel
theorem d_ML_feed_17 : decode b_ML_feed 17 = .ok (.aload_n 0, 1) := by decide +kernel
theorem d_ML_feed_18 : decode b_ML_feed 18 = .ok (.getfield 51, 3) := by decide +kernel
theorem d_ML_feed_21 : decode b_ML_feed 21 = .ok (.invokevirtual 164, 3) := by decide +kernel
theorem d_ML_feed_24 : decode b_ML_feed 24 = .ok (.iconst 1, 1) := by decide +kernel
theorem d_ML_feed_25 : decode b_ML_feed 25 = .ok (.if_icmp .ge 13, 3) := by decide +kernel
theorem d_ML_feed_28 : decode b_ML_feed 28 = .ok (.new 167, 3) := by decide +kernel
theorem d_ML_feed_31 : decode b_ML_feed 31 = .ok (.dup, 1) := by decide +kernel
theorem d_ML_feed_32 : decode b_ML_feed 32 = .ok (.ldc 169, 2) := by decide +kernel
theorem d_ML_feed_34 : decode b_ML_feed 34 = .ok (.invokespecial 171, 3) := by decide +kernel
theorem d_ML_feed_37 : decode b_ML_feed 37 = .ok (.athrow, 1) := by decide +kernel
theorem d_ML_feed_38 : decode b_ML_feed 38 = .ok (.aload_n 0, 1) := by decide +kernel
theorem d_ML_feed_39 : decode b_ML_feed 39 = .ok (.getfield 51, 3) := by decide +kernel
theorem d_ML_feed_42 : decode b_ML_feed 42 = .ok (.iload_n 1, 1) := by decide +kernel
theorem d_ML_feed_43 : decode b_ML_feed 43 = .ok (.invokevirtual 172, 3) := by decide +kernel
theorem d_ML_feed_46 : decode b_ML_feed 46 = .ok (.aload_n 0, 1) := by decide +kernel
theorem d_ML_feed_47 : decode b_ML_feed 47 = .ok (.getfield 51, 3) := by decide +kernel
theorem d_ML_feed_50 : decode b_ML_feed 50 = .ok (.getfield 175, 3) := by decide +kernel
theorem d_ML_feed_53 : decode b_ML_feed 53 = .ok (.ireturn, 1) := by decide +kernel
abbrev b_ML_pass : ByteArray := prog_1_method_12_code
def y_ML_pass : MethodName := ⟨"MaskLayers", "pass", "(II)I"⟩
theorem d_ML_pass_0 : decode b_ML_pass 0 = .ok (.aload_n 0, 1) := by decide +kernel
theorem d_ML_pass_1 : decode b_ML_pass 1 = .ok (.getfield 47, 3) := by decide +kernel
theorem d_ML_pass_4 : decode b_ML_pass 4 = .ok (.iload_n 1, 1) := by decide +kernel
theorem d_ML_pass_5 : decode b_ML_pass 5 = .ok (.invokevirtual 150, 3) := by decide +kernel
theorem d_ML_pass_8 : decode b_ML_pass 8 = .ok (.ifCond .ne 13, 3) := by decide +kernel
theorem d_ML_pass_11 : decode b_ML_pass 11 = .ok (.new 88, 3) := by decide +kernel
theorem d_ML_pass_14 : decode b_ML_pass 14 = .ok (.dup, 1) := by decide +kernel
theorem d_ML_pass_15 : decode b_ML_pass 15 = .ok (.ldc 154, 2) := by decide +kernel
theorem d_ML_pass_17 : decode b_ML_pass 17 = .ok (.invokespecial 92, 3) := by decide +kernel
theorem d_ML_pass_20 : decode b_ML_pass 20 = .ok (.athrow, 1) := by decide +kernel
theorem d_ML_pass_21 : decode b_ML_pass 21 = .ok (.iload_n 2, 1) := by decide +kernel
theorem d_ML_pass_22 : decode b_ML_pass 22 = .ok (.ifCond .ge 13, 3) := by decide +kernel
theorem d_ML_pass_25 : decode b_ML_pass 25 = .ok (.new 96, 3) := by decide +kernel
theorem d_ML_pass_28 : decode b_ML_pass 28 = .ok (.dup, 1) := by decide +kernel
theorem d_ML_pass_29 : decode b_ML_pass 29 = .ok (.ldc 176, 2) := by decide +kernel
theorem d_ML_pass_31 : decode b_ML_pass 31 = .ok (.invokespecial 100, 3) := by decide +kernel
theorem d_ML_pass_34 : decode b_ML_pass 34 = .ok (.athrow, 1) := by decide +kernel
theorem d_ML_pass_35 : decode b_ML_pass 35 = .ok (.iload_n 2, 1) := by decide +kernel
theorem d_ML_pass_36 : decode b_ML_pass 36 = .ok (.aload_n 0, 1) := by decide +kernel
theorem d_ML_pass_37 : decode b_ML_pass 37 = .ok (.getfield 47, 3) := by decide +kernel
theorem d_ML_pass_40 : decode b_ML_pass 40 = .ok (.getfield 175, 3) := by decide +kernel
theorem d_ML_pass_43 : decode b_ML_pass 43 = .ok (.iload_n 1, 1) := by decide +kernel
theorem d_ML_pass_44 : decode b_ML_pass 44 = .ok (.isub, 1) := by decide +kernel
theorem d_ML_pass_45 : decode b_ML_pass 45 = .ok (.invokestatic 9, 3) := by decide +kernel
theorem d_ML_pass_48 : decode b_ML_pass 48 = .ok (.istore_n 3, 1) := by decide +kernel
theorem d_ML_pass_49 : decode b_ML_pass 49 = .ok (.aload_n 0, 1) := by decide +kernel
theorem d_ML_pass_50 : decode b_ML_pass 50 = .ok (.getfield 51, 3) := by decide +kernel
theorem d_ML_pass_53 : decode b_ML_pass 53 = .ok (.invokevirtual 164, 3) := by decide +kernel
theorem d_ML_pass_56 : decode b_ML_pass 56 = .ok (.iload_n 3, 1) := by decide +kernel
theorem d_ML_pass_57 : decode b_ML_pass 57 = .ok (.if_icmp .ge 13, 3) := by decide +kernel
theorem d_ML_pass_60 : decode b_ML_pass 60 = .ok (.new 167, 3) := by decide +kernel
theorem d_ML_pass_63 : decode b_ML_pass 63 = .ok (.dup, 1) := by decide +kernel
theorem d_ML_pass_64 : decode b_ML_pass 64 = .ok (.ldc 169, 2) := by decide +kernel
theorem d_ML_pass_66 : decode b_ML_pass 66 = .ok (.invokespecial 171, 3) := by decide +kernel
theorem d_ML_pass_69 : decode b_ML_pass 69 = .ok (.athrow, 1) := by decide +kernel
theorem d_ML_pass_70 : decode b_ML_pass 70 = .ok (.iconst 0, 1) := by decide +kernel
theorem d_ML_pass_71 : decode b_ML_pass 71 = .ok (.istore 4, 2) := by decide +kernel
theorem d_ML_pass_73 : decode b_ML_pass 73 = .ok (.iload 4, 2) := by decide +kernel
theorem d_ML_pass_75 : decode b_ML_pass 75 = .ok (.iload_n 3, 1) := by decide +kernel
theorem d_ML_pass_76 : decode b_ML_pass 76 = .ok (.if_icmp .ge 27, 3) := by decide +kernel
theorem d_ML_pass_79 : decode b_ML_pass 79 = .ok (.aload_n 0, 1) := by decide +kernel
theorem d_ML_pass_80 : decode b_ML_pass 80 = .ok (.getfield 51, 3) := by decide +kernel
theorem d_ML_pass_83 : decode b_ML_pass 83 = .ok (.aload_n 0, 1) := by decide +kernel
theorem d_ML_pass_84 : decode b_ML_pass 84 = .ok (.getfield 47, 3) := by decide +kernel
theorem d_ML_pass_87 : decode b_ML_pass 87 = .ok (.iload_n 1, 1) := by decide +kernel
theorem d_ML_pass_88 : decode b_ML_pass 88 = .ok (.iload 4, 2) := by decide +kernel
theorem d_ML_pass_90 : decode b_ML_pass 90 = .ok (.iadd, 1) := by decide +kernel
theorem d_ML_pass_91 : decode b_ML_pass 91 = .ok (.invokevirtual 156, 3) := by decide +kernel
theorem d_ML_pass_94 : decode b_ML_pass 94 = .ok (.invokevirtual 172, 3) := by decide +kernel
theorem d_ML_pass_97 : decode b_ML_pass 97 = .ok (.iinc 4 1, 3) := by decide +kernel
theorem d_ML_pass_100 : decode b_ML_pass 100 = .ok (.goto (-27), 3) := by decide +kernel
theorem d_ML_pass_103 : decode b_ML_pass 103 = .ok (.iload_n 3, 1) := by decide +kernel
theorem d_ML_pass_104 : decode b_ML_pass 104 = .ok (.ireturn, 1) := by decide +kernel
theorem m_ByteRow_init : Cond.code y_ByteRow_init b_ByteRow_init 1 none ∈ BIG := mb (List.mem_of_getElem? (i := 143) (by decide +kernel)) rfl
theorem m_Layers_init : Cond.code y_Layers_init b_Layers_init 2 none ∈ BIG := mb (List.mem_of_getElem? (i := 98) (by decide +kernel)) rfl
theorem m_Maker_init : Cond.code y_Maker_init b_Maker_init 4 none ∈ BIG := mb (List.mem_of_getElem? (i := 160) (by decide +kernel)) rfl
theorem m_Writer_init : Cond.code y_Writer_init b_Writer_init 3 none ∈ BIG := mb (List.mem_of_getElem? (i := 179) (by decide +kernel)) rfl
theorem m_Reader_init : Cond.code y_Reader_init b_Reader_init 3 none ∈ BIG := mb (List.mem_of_getElem? (i := 192) (by decide +kernel)) rfl
theorem m_ML_init : Cond.code y_ML_init b_ML_init 4 none ∈ BIG := mb (List.mem_of_getElem? (i := 84) (by decide +kernel)) rfl
theorem m_ML_hasSample : Cond.code y_ML_hasSample b_ML_hasSample 3 (some .boolean) ∈ BIG := mb (List.mem_of_getElem? (i := 412) (by decide +kernel)) rfl
theorem m_ML_maskedSamples : Cond.code y_ML_maskedSamples b_ML_maskedSamples 3 (some .int) ∈ BIG := mb (List.mem_of_getElem? (i := 386) (by decide +kernel)) rfl
theorem m_ML_layer : Cond.code y_ML_layer b_ML_layer 4 (some .int) ∈ BIG := mb (List.mem_of_getElem? (i := 625) (by decide +kernel)) rfl
theorem m_ML_filled : Cond.code y_ML_filled b_ML_filled 4 (some .boolean) ∈ BIG := mb (List.mem_of_getElem? (i := 660) (by decide +kernel)) rfl
theorem m_ML_joined : Cond.code y_ML_joined b_ML_joined 3 (some .int) ∈ BIG := mb (List.mem_of_getElem? (i := 674) (by decide +kernel)) rfl
theorem m_ML_byteAt : Cond.code y_ML_byteAt b_ML_byteAt 2 (some .int) ∈ BIG := mb (List.mem_of_getElem? (i := 763) (by decide +kernel)) rfl
theorem m_ML_at : Cond.code y_ML_at b_ML_at 3 (some .int) ∈ BIG := mb (List.mem_of_getElem? (i := 830) (by decide +kernel)) rfl
theorem m_ML_told : Cond.code y_ML_told b_ML_told 2 (some .int) ∈ BIG := mb (List.mem_of_getElem? (i := 382) (by decide +kernel)) rfl
theorem m_ML_change : Cond.code y_ML_change b_ML_change 10 (some .int) ∈ BIG := mb (List.mem_of_getElem? (i := 502) (by decide +kernel)) rfl
theorem m_ML_put : Cond.code y_ML_put b_ML_put 5 (some .int) ∈ BIG := mb (List.mem_of_getElem? (i := 408) (by decide +kernel)) rfl
theorem m_ML_mask : Cond.code y_ML_mask b_ML_mask 5 (some .int) ∈ BIG := mb (List.mem_of_getElem? (i := 509) (by decide +kernel)) rfl
theorem m_ML_stripe : Cond.code y_ML_stripe b_ML_stripe 2 (some .int) ∈ BIG := mb (List.mem_of_getElem? (i := 517) (by decide +kernel)) rfl
theorem m_ML_run : Cond.code y_ML_run b_ML_run 4 (some .int) ∈ BIG := mb (List.mem_of_getElem? (i := 525) (by decide +kernel)) rfl
theorem m_ML_alter : Cond.code y_ML_alter b_ML_alter 3 (some .int) ∈ BIG := mb (List.mem_of_getElem? (i := 818) (by decide +kernel)) rfl
theorem m_ML_read : Cond.code y_ML_read b_ML_read 1 (some .int) ∈ BIG := mb (List.mem_of_getElem? (i := 252) (by decide +kernel)) rfl
theorem m_ML_clear : Cond.code y_ML_clear b_ML_clear 1 none ∈ BIG := mb (List.mem_of_getElem? (i := 390) (by decide +kernel)) rfl
theorem m_ML_write : Cond.code y_ML_write b_ML_write 1 (some .int) ∈ BIG := mb (List.mem_of_getElem? (i := 686) (by decide +kernel)) rfl
theorem m_ML_feed : Cond.code y_ML_feed b_ML_feed 2 (some .int) ∈ BIG := mb (List.mem_of_getElem? (i := 781) (by decide +kernel)) rfl
theorem m_ML_pass : Cond.code y_ML_pass b_ML_pass 5 (some .int) ∈ BIG := mb (List.mem_of_getElem? (i := 810) (by decide +kernel)) rfl
def rm_ByteRow_init (cT sT : Nat) : Room := { frames := 1, cells := cT, slots := sT, locals := 12 }
def rm_Layers_init (cT sT : Nat) : Room := { frames := 1, cells := cT, slots := sT, locals := 12 }
def rm_Maker_init (cT sT : Nat) : Room := { frames := 1, cells := cT, slots := sT, locals := 12 }
def rm_Writer_init (cT sT : Nat) : Room := { frames := 1, cells := cT, slots := sT, locals := 12 }
def rm_Reader_init (cT sT : Nat) : Room := { frames := 1, cells := cT, slots := sT, locals := 12 }
def rm_ML_init (cT sT : Nat) : Room := { frames := 2, cells := cT, slots := sT, locals := 60 }
def rm_ML_hasSample : Room := { frames := 0, cells := 0, slots := 0, locals := 0 }
def rm_ML_maskedSamples : Room := { frames := 0, cells := 0, slots := 0, locals := 0 }
def rm_ML_layer : Room := { frames := 4, cells := 0, slots := 0, locals := 90 }
def rm_ML_filled : Room := { frames := 4, cells := 0, slots := 0, locals := 91 }
def rm_ML_joined : Room := { frames := 5, cells := 0, slots := 0, locals := 113 }
def rm_ML_byteAt : Room := { frames := 2, cells := 0, slots := 0, locals := 42 }
def rm_ML_at : Room := { frames := 6, cells := 0, slots := 0, locals := 136 }
def rm_ML_told : Room := { frames := 1, cells := 0, slots := 0, locals := 22 }
def rm_ML_change_msk : Room := { frames := 1, cells := 0, slots := 0, locals := 21 }
def rm_ML_change_col : Room := { frames := 1, cells := 0, slots := 0, locals := 21 }
def rm_ML_put : Room := { frames := 2, cells := 0, slots := 0, locals := 50 }
def rm_ML_mask : Room := { frames := 2, cells := 0, slots := 0, locals := 50 }
def rm_ML_stripe : Room := { frames := 1, cells := 0, slots := 0, locals := 21 }
def rm_ML_run : Room := { frames := 7, cells := 0, slots := 0, locals := 156 }
def rm_ML_alter : Room := { frames := 3, cells := 0, slots := 0, locals := 65 }
def rm_ML_read : Room := { frames := 7, cells := 0, slots := 0, locals := 164 }
def rm_ML_clear : Room := { frames := 2, cells := 0, slots := 0, locals := 43 }
def rm_ML_write (cT sT : Nat) : Room := { frames := 7, cells := cT, slots := sT, locals := 202 }
def rm_ML_feed (cT sT : Nat) : Room := { frames := 3, cells := cT, slots := sT, locals := 107 }
def rm_ML_pass (cT sT : Nat) : Room := { frames := 3, cells := cT, slots := sT, locals := 107 }
def rm_ML_put_t : Room := { frames := 6, cells := 1, slots := 6, locals := 100 }
def rm_ML_mask_t : Room := { frames := 6, cells := 1, slots := 6, locals := 100 }
def rm_ML_stripe_t : Room := { frames := 6, cells := 1, slots := 6, locals := 100 }
def rm_ML_run_t : Room := { frames := 7, cells := 1, slots := 6, locals := 156 }
def rm_ML_layer_t : Room := { frames := 6, cells := 1, slots := 6, locals := 100 }
def rm_ML_filled_t : Room := { frames := 6, cells := 1, slots := 6, locals := 100 }
def rm_ML_joined_t : Room := { frames := 6, cells := 1, slots := 6, locals := 113 }
def rm_ML_write_t : Room := { frames := 7, cells := 1, slots := 6, locals := 202 }
def rm_ML_byteAt_t : Room := { frames := 6, cells := 1, slots := 6, locals := 100 }
def rm_ML_feed_t : Room := { frames := 6, cells := 1, slots := 6, locals := 107 }
def rm_ML_pass_t : Room := { frames := 6, cells := 1, slots := 6, locals := 107 }
def rm_ML_alter_t : Room := { frames := 6, cells := 1, slots := 6, locals := 100 }
def rm_ML_at_t : Room := { frames := 6, cells := 1, slots := 6, locals := 136 }
section W2
variable {p : Program} {l : Launch} {e : Env} {R : Room} {s : State} {m : MethodId} {args : Array Value} {below : List Frame} {meth : Method} {c : Code} {D : va_G} {A : Nat → Prop} {X : va_W → Prop} {nL : Nat} {Q : State → Prop} {cells slots : Nat} {ws : va_W} {lv : List (Nat × Value)} {st : List Value} {pc : Nat}
variable {tys : List (ClassId × FieldType)} {cc : ByteArray}
theorem gf_ML_122 (C : Cx p s m args meth c D tys cc nL "MaskLayers") (q0 : Nat) {a : Nat} {fs : List Value} {v : Value} (he : ws[q0]? = some (a, .inr (1, fs))) (hv : fs[7]? = some v) (d : decode cc pc = .ok (.getfield 122, 3)) (kk : J p l e R s m args below meth c D A X nL Q cells slots ws lv (v :: st) (pc + 3)) : J p l e R s m args below meth c D A X nL Q cells slots ws lv (.ref a :: st) pc :=
  fun H locs ls hP hD hS h => va_getN (C := cn1) (T := cf1) (N := 8) C.1.1 C.1.2.1 C.1.2.2.2.2 ch1 C.1.2.2.2.1 C.2.1 hP q0 he rfl 7 (by decide) (va_Nw.use rfl (C.2.2.1 (.fieldLinkNest "MaskLayers" 122 "MaskLayers$Layers" "count" "I" "MaskLayers") (nwm (List.mem_of_getElem? (i := 120) (by decide +kernel)) rfl))) (fun _ h9 => h9) hv d (kk H locs ls hP hD hS h)
theorem gf_ML_175 (C : Cx p s m args meth c D tys cc nL "MaskLayers") (q0 : Nat) {a : Nat} {fs : List Value} {v : Value} (he : ws[q0]? = some (a, .inr (0, fs))) (hv : fs[1]? = some v) (d : decode cc pc = .ok (.getfield 175, 3)) (kk : J p l e R s m args below meth c D A X nL Q cells slots ws lv (v :: st) (pc + 3)) : J p l e R s m args below meth c D A X nL Q cells slots ws lv (.ref a :: st) pc :=
  fun H locs ls hP hD hS h => va_getN (C := cn0) (T := cf0) (N := 2) C.1.1 C.1.2.1 C.1.2.2.2.2 ch0 C.1.2.2.2.1 C.2.1 hP q0 he rfl 1 (by decide) (va_Nw.use rfl (C.2.2.1 (.fieldLinkNest "MaskLayers" 175 "MaskLayers$ByteRow" "count" "I" "MaskLayers") (nwm (List.mem_of_getElem? (i := 150) (by decide +kernel)) rfl))) (fun _ h9 => h9) hv d (kk H locs ls hP hD hS h)
theorem gf_ML_18 (C : Cx p s m args meth c D tys cc nL "MaskLayers") (q0 : Nat) {a : Nat} {fs : List Value} {v : Value} (he : ws[q0]? = some (a, .inr (5, fs))) (hv : fs[0]? = some v) (d : decode cc pc = .ok (.getfield 18, 3)) (kk : J p l e R s m args below meth c D A X nL Q cells slots ws lv (v :: st) (pc + 3)) : J p l e R s m args below meth c D A X nL Q cells slots ws lv (.ref a :: st) pc :=
  fun H locs ls hP hD hS h => va_get (C := cn5) (T := cf5) (N := 12) C.1.1 C.1.2.1 C.1.2.2.2.2 ch5 C.1.2.2.2.1 C.2.1 hP q0 he rfl 0 (by decide) (C.1.2.2.2.2 (.fieldLink "MaskLayers" 18 "MaskLayers" "width" "I") (mb (List.mem_of_getElem? (i := 212) (by decide +kernel)) rfl)) (fun _ h9 => h9) hv d (kk H locs ls hP hD hS h)
theorem gf_ML_192 (C : Cx p s m args meth c D tys cc nL "MaskLayers") (q0 : Nat) {a : Nat} {fs : List Value} {v : Value} (he : ws[q0]? = some (a, .inr (1, fs))) (hv : fs[2]? = some v) (d : decode cc pc = .ok (.getfield 192, 3)) (kk : J p l e R s m args below meth c D A X nL Q cells slots ws lv (v :: st) (pc + 3)) : J p l e R s m args below meth c D A X nL Q cells slots ws lv (.ref a :: st) pc :=
  fun H locs ls hP hD hS h => va_getN (C := cn1) (T := cf1) (N := 8) C.1.1 C.1.2.1 C.1.2.2.2.2 ch1 C.1.2.2.2.1 C.2.1 hP q0 he rfl 2 (by decide) (va_Nw.use rfl (C.2.2.1 (.fieldLinkNest "MaskLayers" 192 "MaskLayers$Layers" "width" "I" "MaskLayers") (nwm (List.mem_of_getElem? (i := 107) (by decide +kernel)) rfl))) (fun _ h9 => h9) hv d (kk H locs ls hP hD hS h)
theorem gf_ML_193 (C : Cx p s m args meth c D tys cc nL "MaskLayers") (q0 : Nat) {a : Nat} {fs : List Value} {v : Value} (he : ws[q0]? = some (a, .inr (1, fs))) (hv : fs[3]? = some v) (d : decode cc pc = .ok (.getfield 193, 3)) (kk : J p l e R s m args below meth c D A X nL Q cells slots ws lv (v :: st) (pc + 3)) : J p l e R s m args below meth c D A X nL Q cells slots ws lv (.ref a :: st) pc :=
  fun H locs ls hP hD hS h => va_getN (C := cn1) (T := cf1) (N := 8) C.1.1 C.1.2.1 C.1.2.2.2.2 ch1 C.1.2.2.2.1 C.2.1 hP q0 he rfl 3 (by decide) (va_Nw.use rfl (C.2.2.1 (.fieldLinkNest "MaskLayers" 193 "MaskLayers$Layers" "height" "I" "MaskLayers") (nwm (List.mem_of_getElem? (i := 110) (by decide +kernel)) rfl))) (fun _ h9 => h9) hv d (kk H locs ls hP hD hS h)
theorem gf_ML_22 (C : Cx p s m args meth c D tys cc nL "MaskLayers") (q0 : Nat) {a : Nat} {fs : List Value} {v : Value} (he : ws[q0]? = some (a, .inr (5, fs))) (hv : fs[1]? = some v) (d : decode cc pc = .ok (.getfield 22, 3)) (kk : J p l e R s m args below meth c D A X nL Q cells slots ws lv (v :: st) (pc + 3)) : J p l e R s m args below meth c D A X nL Q cells slots ws lv (.ref a :: st) pc :=
  fun H locs ls hP hD hS h => va_get (C := cn5) (T := cf5) (N := 12) C.1.1 C.1.2.1 C.1.2.2.2.2 ch5 C.1.2.2.2.1 C.2.1 hP q0 he rfl 1 (by decide) (C.1.2.2.2.2 (.fieldLink "MaskLayers" 22 "MaskLayers" "height" "I") (mb (List.mem_of_getElem? (i := 213) (by decide +kernel)) rfl)) (fun _ h9 => h9) hv d (kk H locs ls hP hD hS h)
theorem gf_ML_25 (C : Cx p s m args meth c D tys cc nL "MaskLayers") (q0 : Nat) {a : Nat} {fs : List Value} {v : Value} (he : ws[q0]? = some (a, .inr (5, fs))) (hv : fs[2]? = some v) (d : decode cc pc = .ok (.getfield 25, 3)) (kk : J p l e R s m args below meth c D A X nL Q cells slots ws lv (v :: st) (pc + 3)) : J p l e R s m args below meth c D A X nL Q cells slots ws lv (.ref a :: st) pc :=
  fun H locs ls hP hD hS h => va_get (C := cn5) (T := cf5) (N := 12) C.1.1 C.1.2.1 C.1.2.2.2.2 ch5 C.1.2.2.2.1 C.2.1 hP q0 he rfl 2 (by decide) (C.1.2.2.2.2 (.fieldLink "MaskLayers" 25 "MaskLayers" "colours" "[I") (mb (List.mem_of_getElem? (i := 214) (by decide +kernel)) rfl)) (fun _ h9 => h9) hv d (kk H locs ls hP hD hS h)
theorem gf_ML_29 (C : Cx p s m args meth c D tys cc nL "MaskLayers") (q0 : Nat) {a : Nat} {fs : List Value} {v : Value} (he : ws[q0]? = some (a, .inr (5, fs))) (hv : fs[3]? = some v) (d : decode cc pc = .ok (.getfield 29, 3)) (kk : J p l e R s m args below meth c D A X nL Q cells slots ws lv (v :: st) (pc + 3)) : J p l e R s m args below meth c D A X nL Q cells slots ws lv (.ref a :: st) pc :=
  fun H locs ls hP hD hS h => va_get (C := cn5) (T := cf5) (N := 12) C.1.1 C.1.2.1 C.1.2.2.2.2 ch5 C.1.2.2.2.1 C.2.1 hP q0 he rfl 3 (by decide) (C.1.2.2.2.2 (.fieldLink "MaskLayers" 29 "MaskLayers" "masked" "[I") (mb (List.mem_of_getElem? (i := 215) (by decide +kernel)) rfl)) (fun _ h9 => h9) hv d (kk H locs ls hP hD hS h)
theorem gf_ML_37 (C : Cx p s m args meth c D tys cc nL "MaskLayers") (q0 : Nat) {a : Nat} {fs : List Value} {v : Value} (he : ws[q0]? = some (a, .inr (5, fs))) (hv : fs[4]? = some v) (d : decode cc pc = .ok (.getfield 37, 3)) (kk : J p l e R s m args below meth c D A X nL Q cells slots ws lv (v :: st) (pc + 3)) : J p l e R s m args below meth c D A X nL Q cells slots ws lv (.ref a :: st) pc :=
  fun H locs ls hP hD hS h => va_get (C := cn5) (T := cf5) (N := 12) C.1.1 C.1.2.1 C.1.2.2.2.2 ch5 C.1.2.2.2.1 C.2.1 hP q0 he rfl 4 (by decide) (C.1.2.2.2.2 (.fieldLink "MaskLayers" 37 "MaskLayers" "made" "LMaskLayers$Layers;") (mb (List.mem_of_getElem? (i := 216) (by decide +kernel)) rfl)) (fun _ h9 => h9) hv d (kk H locs ls hP hD hS h)
theorem gf_ML_41 (C : Cx p s m args meth c D tys cc nL "MaskLayers") (q0 : Nat) {a : Nat} {fs : List Value} {v : Value} (he : ws[q0]? = some (a, .inr (5, fs))) (hv : fs[5]? = some v) (d : decode cc pc = .ok (.getfield 41, 3)) (kk : J p l e R s m args below meth c D A X nL Q cells slots ws lv (v :: st) (pc + 3)) : J p l e R s m args below meth c D A X nL Q cells slots ws lv (.ref a :: st) pc :=
  fun H locs ls hP hD hS h => va_get (C := cn5) (T := cf5) (N := 12) C.1.1 C.1.2.1 C.1.2.2.2.2 ch5 C.1.2.2.2.1 C.2.1 hP q0 he rfl 5 (by decide) (C.1.2.2.2.2 (.fieldLink "MaskLayers" 41 "MaskLayers" "found" "LMaskLayers$Layers;") (mb (List.mem_of_getElem? (i := 217) (by decide +kernel)) rfl)) (fun _ h9 => h9) hv d (kk H locs ls hP hD hS h)
theorem gf_ML_47 (C : Cx p s m args meth c D tys cc nL "MaskLayers") (q0 : Nat) {a : Nat} {fs : List Value} {v : Value} (he : ws[q0]? = some (a, .inr (5, fs))) (hv : fs[6]? = some v) (d : decode cc pc = .ok (.getfield 47, 3)) (kk : J p l e R s m args below meth c D A X nL Q cells slots ws lv (v :: st) (pc + 3)) : J p l e R s m args below meth c D A X nL Q cells slots ws lv (.ref a :: st) pc :=
  fun H locs ls hP hD hS h => va_get (C := cn5) (T := cf5) (N := 12) C.1.1 C.1.2.1 C.1.2.2.2.2 ch5 C.1.2.2.2.1 C.2.1 hP q0 he rfl 6 (by decide) (C.1.2.2.2.2 (.fieldLink "MaskLayers" 47 "MaskLayers" "written" "LMaskLayers$ByteRow;") (mb (List.mem_of_getElem? (i := 218) (by decide +kernel)) rfl)) (fun _ h9 => h9) hv d (kk H locs ls hP hD hS h)
theorem gf_ML_51 (C : Cx p s m args meth c D tys cc nL "MaskLayers") (q0 : Nat) {a : Nat} {fs : List Value} {v : Value} (he : ws[q0]? = some (a, .inr (5, fs))) (hv : fs[7]? = some v) (d : decode cc pc = .ok (.getfield 51, 3)) (kk : J p l e R s m args below meth c D A X nL Q cells slots ws lv (v :: st) (pc + 3)) : J p l e R s m args below meth c D A X nL Q cells slots ws lv (.ref a :: st) pc :=
  fun H locs ls hP hD hS h => va_get (C := cn5) (T := cf5) (N := 12) C.1.1 C.1.2.1 C.1.2.2.2.2 ch5 C.1.2.2.2.1 C.2.1 hP q0 he rfl 7 (by decide) (C.1.2.2.2.2 (.fieldLink "MaskLayers" 51 "MaskLayers" "fed" "LMaskLayers$ByteRow;") (mb (List.mem_of_getElem? (i := 219) (by decide +kernel)) rfl)) (fun _ h9 => h9) hv d (kk H locs ls hP hD hS h)
theorem gf_ML_59 (C : Cx p s m args meth c D tys cc nL "MaskLayers") (q0 : Nat) {a : Nat} {fs : List Value} {v : Value} (he : ws[q0]? = some (a, .inr (5, fs))) (hv : fs[8]? = some v) (d : decode cc pc = .ok (.getfield 59, 3)) (kk : J p l e R s m args below meth c D A X nL Q cells slots ws lv (v :: st) (pc + 3)) : J p l e R s m args below meth c D A X nL Q cells slots ws lv (.ref a :: st) pc :=
  fun H locs ls hP hD hS h => va_get (C := cn5) (T := cf5) (N := 12) C.1.1 C.1.2.1 C.1.2.2.2.2 ch5 C.1.2.2.2.1 C.2.1 hP q0 he rfl 8 (by decide) (C.1.2.2.2.2 (.fieldLink "MaskLayers" 59 "MaskLayers" "maker" "LMaskLayers$Maker;") (mb (List.mem_of_getElem? (i := 220) (by decide +kernel)) rfl)) (fun _ h9 => h9) hv d (kk H locs ls hP hD hS h)
theorem gf_ML_68 (C : Cx p s m args meth c D tys cc nL "MaskLayers") (q0 : Nat) {a : Nat} {fs : List Value} {v : Value} (he : ws[q0]? = some (a, .inr (5, fs))) (hv : fs[9]? = some v) (d : decode cc pc = .ok (.getfield 68, 3)) (kk : J p l e R s m args below meth c D A X nL Q cells slots ws lv (v :: st) (pc + 3)) : J p l e R s m args below meth c D A X nL Q cells slots ws lv (.ref a :: st) pc :=
  fun H locs ls hP hD hS h => va_get (C := cn5) (T := cf5) (N := 12) C.1.1 C.1.2.1 C.1.2.2.2.2 ch5 C.1.2.2.2.1 C.2.1 hP q0 he rfl 9 (by decide) (C.1.2.2.2.2 (.fieldLink "MaskLayers" 68 "MaskLayers" "writer" "LMaskLayers$Writer;") (mb (List.mem_of_getElem? (i := 221) (by decide +kernel)) rfl)) (fun _ h9 => h9) hv d (kk H locs ls hP hD hS h)
theorem gf_ML_77 (C : Cx p s m args meth c D tys cc nL "MaskLayers") (q0 : Nat) {a : Nat} {fs : List Value} {v : Value} (he : ws[q0]? = some (a, .inr (5, fs))) (hv : fs[10]? = some v) (d : decode cc pc = .ok (.getfield 77, 3)) (kk : J p l e R s m args below meth c D A X nL Q cells slots ws lv (v :: st) (pc + 3)) : J p l e R s m args below meth c D A X nL Q cells slots ws lv (.ref a :: st) pc :=
  fun H locs ls hP hD hS h => va_get (C := cn5) (T := cf5) (N := 12) C.1.1 C.1.2.1 C.1.2.2.2.2 ch5 C.1.2.2.2.1 C.2.1 hP q0 he rfl 10 (by decide) (C.1.2.2.2.2 (.fieldLink "MaskLayers" 77 "MaskLayers" "reader" "LMaskLayers$Reader;") (mb (List.mem_of_getElem? (i := 222) (by decide +kernel)) rfl)) (fun _ h9 => h9) hv d (kk H locs ls hP hD hS h)
theorem gf_ML_81 (C : Cx p s m args meth c D tys cc nL "MaskLayers") (q0 : Nat) {a : Nat} {fs : List Value} {v : Value} (he : ws[q0]? = some (a, .inr (5, fs))) (hv : fs[11]? = some v) (d : decode cc pc = .ok (.getfield 81, 3)) (kk : J p l e R s m args below meth c D A X nL Q cells slots ws lv (v :: st) (pc + 3)) : J p l e R s m args below meth c D A X nL Q cells slots ws lv (.ref a :: st) pc :=
  fun H locs ls hP hD hS h => va_get (C := cn5) (T := cf5) (N := 12) C.1.1 C.1.2.1 C.1.2.2.2.2 ch5 C.1.2.2.2.1 C.2.1 hP q0 he rfl 11 (by decide) (C.1.2.2.2.2 (.fieldLink "MaskLayers" 81 "MaskLayers" "step" "I") (mb (List.mem_of_getElem? (i := 223) (by decide +kernel)) rfl)) (fun _ h9 => h9) hv d (kk H locs ls hP hD hS h)
theorem pf_ML_81 (C : Cx p s m args meth c D tys cc nL "MaskLayers") (q0 : Nat) (ws' : va_W) {a : Nat} {fs : List Value} {v : Int32} (he : ws[q0]? = some (a, .inr (5, fs))) (hl : fs.length = 12) (hw : ws.set q0 (a, .inr (5, fs.set 11 (.int v))) = ws') (d : decode cc pc = .ok (.putfield 81, 3)) (kk : J p l e R s m args below meth c D A (va_D A) nL Q cells slots ws' lv st (pc + 3)) : J p l e R s m args below meth c D A (va_D A) nL Q cells slots ws lv (.int v :: .ref a :: st) pc := by
  subst hw
  exact fun H locs ls hP hD hS h => va_put (ty := .int) (C := cn5) (T := cf5) (N := 12) C.1.1 C.1.2.1 C.1.2.2.2.2 ch5 ct5 cg5 ce5 C.1.2.2.2.1 C.2.1 hP hD hS q0 he rfl 11 (by decide) (C.1.2.2.2.2 (.fieldLink "MaskLayers" 81 "MaskLayers" "step" "I") (mb (List.mem_of_getElem? (i := 223) (by decide +kernel)) rfl)) (fun _ h9 => h9) rfl rfl rfl rfl (by rw [hl]; decide) d (fun H1 locs1 hP hD hS => kk H1 locs1 ls hP hD hS h)
theorem cw_ML_101 (C : Cx p s m args meth c D tys cc nL "MaskLayers") (hR : rm_ML_change_col.frames + 1 ≤ R.frames ∧ 8 + (10 + 11) + rm_ML_change_col.locals ≤ R.locals) : CallW R s args "MaskLayers" "MaskLayers" 101 y_ML_change b_ML_change 10 (some .int) (Cond.code y_ML_change b_ML_change 10 (some .int) :: BIG) rm_ML_change_col 0 0 5 :=
  ⟨cB C (mb (List.mem_of_getElem? (i := 499) (by decide +kernel)) rfl) (mb (List.mem_of_getElem? (i := 63) (by decide +kernel)) rfl) m_ML_change rfl rfl ⟨by decide, by decide, by decide +kernel⟩ hR, C.1.2.2.2.2 _ (mb (List.mem_of_getElem? (i := 501) (by decide +kernel)) rfl), C.1.2.2.2.2 _ (mb (List.mem_of_getElem? (i := 16) (by decide +kernel)) rfl)⟩
theorem cw_ML_114 (C : Cx p s m args meth c D tys cc nL "MaskLayers") (hR : rm_Layers_shape.frames + 1 ≤ R.frames ∧ 8 + (6 + 11) + rm_Layers_shape.locals ≤ R.locals) : CallW R s args "MaskLayers" "MaskLayers$Layers" 114 y_Layers_shape b_Layers_shape 6 none (Cond.code y_Layers_shape b_Layers_shape 6 none :: BIG) rm_Layers_shape 0 0 5 :=
  ⟨cB C (mb (List.mem_of_getElem? (i := 527) (by decide +kernel)) rfl) (mb (List.mem_of_getElem? (i := 65) (by decide +kernel)) rfl) m_Layers_shape rfl rfl ⟨by decide, by decide, by decide +kernel⟩ hR, C.1.2.2.2.2 _ (mb (List.mem_of_getElem? (i := 275) (by decide +kernel)) rfl), C.1.2.2.2.2 _ (mb (List.mem_of_getElem? (i := 276) (by decide +kernel)) rfl)⟩
theorem cw_ML_118 (C : Cx p s m args meth c D tys cc nL "MaskLayers") (hR : rm_Maker_makeAll.frames + 1 ≤ R.frames ∧ 8 + (3 + 11) + rm_Maker_makeAll.locals ≤ R.locals) : CallW R s args "MaskLayers" "MaskLayers$Maker" 118 y_Maker_makeAll b_Maker_makeAll 3 (some .int) (Cond.code y_Maker_makeAll b_Maker_makeAll 3 (some .int) :: BIG) rm_Maker_makeAll 0 0 1 :=
  ⟨cB C (mb (List.mem_of_getElem? (i := 528) (by decide +kernel)) rfl) (mb (List.mem_of_getElem? (i := 67) (by decide +kernel)) rfl) m_Maker_makeAll rfl rfl ⟨by decide, by decide, by decide +kernel⟩ hR, C.1.2.2.2.2 _ (mb (List.mem_of_getElem? (i := 529) (by decide +kernel)) rfl), C.1.2.2.2.2 _ (mb (List.mem_of_getElem? (i := 530) (by decide +kernel)) rfl)⟩
theorem cw_ML_130 (C : Cx p s m args meth c D tys cc nL "MaskLayers") (hR : rm_Layers_hasSample.frames + 1 ≤ R.frames ∧ 8 + (3 + 11) + rm_Layers_hasSample.locals ≤ R.locals) : CallW R s args "MaskLayers" "MaskLayers$Layers" 130 y_Layers_hasSample b_Layers_hasSample 3 (some .boolean) (Cond.code y_Layers_hasSample b_Layers_hasSample 3 (some .boolean) :: BIG) rm_Layers_hasSample 0 0 2 :=
  ⟨cB C (mb (List.mem_of_getElem? (i := 642) (by decide +kernel)) rfl) (mb (List.mem_of_getElem? (i := 65) (by decide +kernel)) rfl) m_Layers_hasSample rfl rfl ⟨by decide, by decide, by decide +kernel⟩ hR, C.1.2.2.2.2 _ (mb (List.mem_of_getElem? (i := 643) (by decide +kernel)) rfl), C.1.2.2.2.2 _ (mb (List.mem_of_getElem? (i := 644) (by decide +kernel)) rfl)⟩
theorem cw_ML_133 (C : Cx p s m args meth c D tys cc nL "MaskLayers") (hR : rm_Layers_valueAt.frames + 1 ≤ R.frames ∧ 8 + (4 + 11) + rm_Layers_valueAt.locals ≤ R.locals) : CallW R s args "MaskLayers" "MaskLayers$Layers" 133 y_Layers_valueAt b_Layers_valueAt 4 (some .int) (Cond.code y_Layers_valueAt b_Layers_valueAt 4 (some .int) :: BIG) rm_Layers_valueAt 0 0 3 :=
  ⟨cB C (mb (List.mem_of_getElem? (i := 647) (by decide +kernel)) rfl) (mb (List.mem_of_getElem? (i := 65) (by decide +kernel)) rfl) m_Layers_valueAt rfl rfl ⟨by decide, by decide, by decide +kernel⟩ hR, C.1.2.2.2.2 _ (mb (List.mem_of_getElem? (i := 648) (by decide +kernel)) rfl), C.1.2.2.2.2 _ (mb (List.mem_of_getElem? (i := 649) (by decide +kernel)) rfl)⟩
theorem cw_ML_139 (C : Cx p s m args meth c D tys cc nL "MaskLayers") (hR : rm_Maker_wasFilled.frames + 1 ≤ R.frames ∧ 8 + (5 + 11) + rm_Maker_wasFilled.locals ≤ R.locals) : CallW R s args "MaskLayers" "MaskLayers$Maker" 139 y_Maker_wasFilled b_Maker_wasFilled 5 (some .boolean) (Cond.code y_Maker_wasFilled b_Maker_wasFilled 5 (some .boolean) :: BIG) rm_Maker_wasFilled 0 0 3 :=
  ⟨cB C (mb (List.mem_of_getElem? (i := 662) (by decide +kernel)) rfl) (mb (List.mem_of_getElem? (i := 67) (by decide +kernel)) rfl) m_Maker_wasFilled rfl rfl ⟨by decide, by decide, by decide +kernel⟩ hR, C.1.2.2.2.2 _ (mb (List.mem_of_getElem? (i := 663) (by decide +kernel)) rfl), C.1.2.2.2.2 _ (mb (List.mem_of_getElem? (i := 664) (by decide +kernel)) rfl)⟩
theorem cw_ML_143 (C : Cx p s m args meth c D tys cc nL "MaskLayers") (hR : rm_Layers_joinedAt.frames + 1 ≤ R.frames ∧ 8 + (4 + 11) + rm_Layers_joinedAt.locals ≤ R.locals) : CallW R s args "MaskLayers" "MaskLayers$Layers" 143 y_Layers_joinedAt b_Layers_joinedAt 4 (some .int) (Cond.code y_Layers_joinedAt b_Layers_joinedAt 4 (some .int) :: BIG) rm_Layers_joinedAt 0 0 2 :=
  ⟨cB C (mb (List.mem_of_getElem? (i := 675) (by decide +kernel)) rfl) (mb (List.mem_of_getElem? (i := 65) (by decide +kernel)) rfl) m_Layers_joinedAt rfl rfl ⟨by decide, by decide, by decide +kernel⟩ hR, C.1.2.2.2.2 _ (mb (List.mem_of_getElem? (i := 676) (by decide +kernel)) rfl), C.1.2.2.2.2 _ (mb (List.mem_of_getElem? (i := 677) (by decide +kernel)) rfl)⟩
theorem cw_ML_146 (C : Cx p s m args meth c D tys cc nL "MaskLayers") {mc ms : Nat} (hR : (rm_Writer_writeAll mc ms).frames + 1 ≤ R.frames ∧ 8 + (3 + 11) + (rm_Writer_writeAll mc ms).locals ≤ R.locals) : CallW R s args "MaskLayers" "MaskLayers$Writer" 146 y_Writer_writeAll b_Writer_writeAll 3 (some .int) (Cond.code y_Writer_writeAll b_Writer_writeAll 3 (some .int) :: BIG) (rm_Writer_writeAll mc ms) mc ms 0 :=
  ⟨cB C (mb (List.mem_of_getElem? (i := 687) (by decide +kernel)) rfl) (mb (List.mem_of_getElem? (i := 68) (by decide +kernel)) rfl) m_Writer_writeAll rfl rfl ⟨by decide, by decide, by decide +kernel⟩ hR, C.1.2.2.2.2 _ (mb (List.mem_of_getElem? (i := 688) (by decide +kernel)) rfl), C.1.2.2.2.2 _ (mb (List.mem_of_getElem? (i := 689) (by decide +kernel)) rfl)⟩
theorem mw_ML_15 : MW "MaskLayers" 15 Lib.Math.max.name Lib.Math.max.code := ⟨(mb (List.mem_of_getElem? (i := 91) (by decide +kernel)) rfl), (mb (List.mem_of_getElem? (i := 92) (by decide +kernel)) rfl), (mb (List.mem_of_getElem? (i := 64) (by decide +kernel)) rfl), (mb (List.mem_of_getElem? (i := 93) (by decide +kernel)) rfl)⟩
theorem cw_ML_150 (C : Cx p s m args meth c D tys cc nL "MaskLayers") (hR : rm_ByteRow_holds.frames + 1 ≤ R.frames ∧ 8 + (2 + 11) + rm_ByteRow_holds.locals ≤ R.locals) : CallW R s args "MaskLayers" "MaskLayers$ByteRow" 150 y_ByteRow_holds b_ByteRow_holds 2 (some .boolean) (Cond.code y_ByteRow_holds b_ByteRow_holds 2 (some .boolean) :: BIG) rm_ByteRow_holds 0 0 1 :=
  ⟨cB C (mb (List.mem_of_getElem? (i := 764) (by decide +kernel)) rfl) (mb (List.mem_of_getElem? (i := 66) (by decide +kernel)) rfl) m_ByteRow_holds rfl rfl ⟨by decide, by decide, by decide +kernel⟩ hR, C.1.2.2.2.2 _ (mb (List.mem_of_getElem? (i := 765) (by decide +kernel)) rfl), C.1.2.2.2.2 _ (mb (List.mem_of_getElem? (i := 766) (by decide +kernel)) rfl)⟩
theorem cw_ML_156 (C : Cx p s m args meth c D tys cc nL "MaskLayers") (hR : rm_ByteRow_valueAt.frames + 1 ≤ R.frames ∧ 8 + (2 + 11) + rm_ByteRow_valueAt.locals ≤ R.locals) : CallW R s args "MaskLayers" "MaskLayers$ByteRow" 156 y_ByteRow_valueAt b_ByteRow_valueAt 2 (some .int) (Cond.code y_ByteRow_valueAt b_ByteRow_valueAt 2 (some .int) :: BIG) rm_ByteRow_valueAt 0 0 1 :=
  ⟨cB C (mb (List.mem_of_getElem? (i := 769) (by decide +kernel)) rfl) (mb (List.mem_of_getElem? (i := 66) (by decide +kernel)) rfl) m_ByteRow_valueAt rfl rfl ⟨by decide, by decide, by decide +kernel⟩ hR, C.1.2.2.2.2 _ (mb (List.mem_of_getElem? (i := 770) (by decide +kernel)) rfl), C.1.2.2.2.2 _ (mb (List.mem_of_getElem? (i := 771) (by decide +kernel)) rfl)⟩
theorem cw_ML_159 (C : Cx p s m args meth c D tys cc nL "MaskLayers") (hR : rm_ML_isByte.frames + 1 ≤ R.frames ∧ 8 + (1 + 11) + rm_ML_isByte.locals ≤ R.locals) : CallB R s args "MaskLayers" 159 y_ML_isByte b_ML_isByte 1 (some .boolean) (Cond.code y_ML_isByte b_ML_isByte 1 (some .boolean) :: BIG) rm_ML_isByte 0 0 1 ∧ (Cond.static y_ML_isByte).before args s = true :=
  ⟨cB C (mb (List.mem_of_getElem? (i := 782) (by decide +kernel)) rfl) (mb (List.mem_of_getElem? (i := 63) (by decide +kernel)) rfl) m_ML_isByte rfl rfl ⟨by decide, by decide, by decide +kernel⟩ hR, C.1.2.2.2.2 _ (mb (List.mem_of_getElem? (i := 783) (by decide +kernel)) rfl)⟩
theorem cw_ML_164 (C : Cx p s m args meth c D tys cc nL "MaskLayers") (hR : rm_ByteRow_room.frames + 1 ≤ R.frames ∧ 8 + (1 + 11) + rm_ByteRow_room.locals ≤ R.locals) : CallW R s args "MaskLayers" "MaskLayers$ByteRow" 164 y_ByteRow_room b_ByteRow_room 1 (some .int) (Cond.code y_ByteRow_room b_ByteRow_room 1 (some .int) :: BIG) rm_ByteRow_room 0 0 0 :=
  ⟨cB C (mb (List.mem_of_getElem? (i := 786) (by decide +kernel)) rfl) (mb (List.mem_of_getElem? (i := 66) (by decide +kernel)) rfl) m_ByteRow_room rfl rfl ⟨by decide, by decide, by decide +kernel⟩ hR, C.1.2.2.2.2 _ (mb (List.mem_of_getElem? (i := 701) (by decide +kernel)) rfl), C.1.2.2.2.2 _ (mb (List.mem_of_getElem? (i := 702) (by decide +kernel)) rfl)⟩
theorem cw_ML_172 (C : Cx p s m args meth c D tys cc nL "MaskLayers") {mc ms : Nat} (hR : (rm_ByteRow_append mc ms).frames + 1 ≤ R.frames ∧ 8 + (2 + 11) + (rm_ByteRow_append mc ms).locals ≤ R.locals) : CallW R s args "MaskLayers" "MaskLayers$ByteRow" 172 y_ByteRow_append b_ByteRow_append 2 none (Cond.code y_ByteRow_append b_ByteRow_append 2 none :: BIG) (rm_ByteRow_append mc ms) mc ms 1 :=
  ⟨cB C (mb (List.mem_of_getElem? (i := 803) (by decide +kernel)) rfl) (mb (List.mem_of_getElem? (i := 66) (by decide +kernel)) rfl) m_ByteRow_append rfl rfl ⟨by decide, by decide, by decide +kernel⟩ hR, C.1.2.2.2.2 _ (mb (List.mem_of_getElem? (i := 697) (by decide +kernel)) rfl), C.1.2.2.2.2 _ (mb (List.mem_of_getElem? (i := 698) (by decide +kernel)) rfl)⟩
theorem cw_ML_178 (C : Cx p s m args meth c D tys cc nL "MaskLayers") (hR : rm_ByteRow_replace.frames + 1 ≤ R.frames ∧ 8 + (4 + 11) + rm_ByteRow_replace.locals ≤ R.locals) : CallW R s args "MaskLayers" "MaskLayers$ByteRow" 178 y_ByteRow_replace b_ByteRow_replace 4 (some .int) (Cond.code y_ByteRow_replace b_ByteRow_replace 4 (some .int) :: BIG) rm_ByteRow_replace 0 0 2 :=
  ⟨cB C (mb (List.mem_of_getElem? (i := 819) (by decide +kernel)) rfl) (mb (List.mem_of_getElem? (i := 66) (by decide +kernel)) rfl) m_ByteRow_replace rfl rfl ⟨by decide, by decide, by decide +kernel⟩ hR, C.1.2.2.2.2 _ (mb (List.mem_of_getElem? (i := 820) (by decide +kernel)) rfl), C.1.2.2.2.2 _ (mb (List.mem_of_getElem? (i := 821) (by decide +kernel)) rfl)⟩
theorem cw_ML_181 (C : Cx p s m args meth c D tys cc nL "MaskLayers") (hR : rm_Reader_readAll.frames + 1 ≤ R.frames ∧ 8 + (3 + 11) + rm_Reader_readAll.locals ≤ R.locals) : CallW R s args "MaskLayers" "MaskLayers$Reader" 181 y_Reader_readAll b_Reader_readAll 3 (some .int) (Cond.code y_Reader_readAll b_Reader_readAll 3 (some .int) :: BIG) rm_Reader_readAll 0 0 0 :=
  ⟨cB C (mb (List.mem_of_getElem? (i := 253) (by decide +kernel)) rfl) (mb (List.mem_of_getElem? (i := 69) (by decide +kernel)) rfl) m_Reader_readAll rfl rfl ⟨by decide, by decide, by decide +kernel⟩ hR, C.1.2.2.2.2 _ (mb (List.mem_of_getElem? (i := 254) (by decide +kernel)) rfl), C.1.2.2.2.2 _ (mb (List.mem_of_getElem? (i := 255) (by decide +kernel)) rfl)⟩
theorem cw_ML_186 (C : Cx p s m args meth c D tys cc nL "MaskLayers") (hR : rm_Layers_exactAt.frames + 1 ≤ R.frames ∧ 8 + (4 + 11) + rm_Layers_exactAt.locals ≤ R.locals) : CallW R s args "MaskLayers" "MaskLayers$Layers" 186 y_Layers_exactAt b_Layers_exactAt 4 (some .int) (Cond.code y_Layers_exactAt b_Layers_exactAt 4 (some .int) :: BIG) rm_Layers_exactAt 0 0 2 :=
  ⟨cB C (mb (List.mem_of_getElem? (i := 832) (by decide +kernel)) rfl) (mb (List.mem_of_getElem? (i := 65) (by decide +kernel)) rfl) m_Layers_exactAt rfl rfl ⟨by decide, by decide, by decide +kernel⟩ hR, C.1.2.2.2.2 _ (mb (List.mem_of_getElem? (i := 833) (by decide +kernel)) rfl), C.1.2.2.2.2 _ (mb (List.mem_of_getElem? (i := 834) (by decide +kernel)) rfl)⟩
theorem cw_ML_189 (C : Cx p s m args meth c D tys cc nL "MaskLayers") (hR : rm_ML_maskedSamples.frames + 1 ≤ R.frames ∧ 8 + (3 + 11) + rm_ML_maskedSamples.locals ≤ R.locals) : CallW R s args "MaskLayers" "MaskLayers" 189 y_ML_maskedSamples b_ML_maskedSamples 3 (some .int) (Cond.code y_ML_maskedSamples b_ML_maskedSamples 3 (some .int) :: BIG) rm_ML_maskedSamples 0 0 0 :=
  ⟨cB C (mb (List.mem_of_getElem? (i := 383) (by decide +kernel)) rfl) (mb (List.mem_of_getElem? (i := 63) (by decide +kernel)) rfl) m_ML_maskedSamples rfl rfl ⟨by decide, by decide, by decide +kernel⟩ hR, C.1.2.2.2.2 _ (mb (List.mem_of_getElem? (i := 385) (by decide +kernel)) rfl), C.1.2.2.2.2 _ (mb (List.mem_of_getElem? (i := 13) (by decide +kernel)) rfl)⟩
theorem cw_ML_194 (C : Cx p s m args meth c D tys cc nL "MaskLayers") (hR : rm_Arrays_fill.frames + 1 ≤ R.frames ∧ 8 + (4 + 11) + rm_Arrays_fill.locals ≤ R.locals) : CallB R s args "MaskLayers" 194 y_Arrays_fill b_Arrays_fill 4 none (Cond.code y_Arrays_fill b_Arrays_fill 4 none :: BIG) rm_Arrays_fill 0 0 2 ∧ (Cond.static y_Arrays_fill).before args s = true :=
  ⟨cB C (mb (List.mem_of_getElem? (i := 391) (by decide +kernel)) rfl) (mb (List.mem_of_getElem? (i := 76) (by decide +kernel)) rfl) m_Arrays_fill rfl rfl ⟨by decide, by decide, by decide +kernel⟩ hR, C.1.2.2.2.2 _ (mb (List.mem_of_getElem? (i := 262) (by decide +kernel)) rfl)⟩
theorem cw_ML_200 (C : Cx p s m args meth c D tys cc nL "MaskLayers") (hR : rm_Layers_forget.frames + 1 ≤ R.frames ∧ 8 + (1 + 11) + rm_Layers_forget.locals ≤ R.locals) : CallW R s args "MaskLayers" "MaskLayers$Layers" 200 y_Layers_forget b_Layers_forget 1 none (Cond.code y_Layers_forget b_Layers_forget 1 none :: BIG) rm_Layers_forget 0 0 0 :=
  ⟨cB C (mb (List.mem_of_getElem? (i := 392) (by decide +kernel)) rfl) (mb (List.mem_of_getElem? (i := 65) (by decide +kernel)) rfl) m_Layers_forget rfl rfl ⟨by decide, by decide, by decide +kernel⟩ hR, C.1.2.2.2.2 _ (mb (List.mem_of_getElem? (i := 258) (by decide +kernel)) rfl), C.1.2.2.2.2 _ (mb (List.mem_of_getElem? (i := 259) (by decide +kernel)) rfl)⟩
theorem cw_ML_203 (C : Cx p s m args meth c D tys cc nL "MaskLayers") (hR : rm_ByteRow_empty.frames + 1 ≤ R.frames ∧ 8 + (1 + 11) + rm_ByteRow_empty.locals ≤ R.locals) : CallW R s args "MaskLayers" "MaskLayers$ByteRow" 203 y_ByteRow_empty b_ByteRow_empty 1 none (Cond.code y_ByteRow_empty b_ByteRow_empty 1 none :: BIG) rm_ByteRow_empty 0 0 0 :=
  ⟨cB C (mb (List.mem_of_getElem? (i := 393) (by decide +kernel)) rfl) (mb (List.mem_of_getElem? (i := 66) (by decide +kernel)) rfl) m_ByteRow_empty rfl rfl ⟨by decide, by decide, by decide +kernel⟩ hR, C.1.2.2.2.2 _ (mb (List.mem_of_getElem? (i := 394) (by decide +kernel)) rfl), C.1.2.2.2.2 _ (mb (List.mem_of_getElem? (i := 395) (by decide +kernel)) rfl)⟩
theorem cw_ML_34 (C : Cx p s m args meth c D tys cc nL "MaskLayers") {mc ms : Nat} (hR : (rm_Layers_init mc ms).frames + 1 ≤ R.frames ∧ 8 + (2 + 11) + (rm_Layers_init mc ms).locals ≤ R.locals) : CallB R s args "MaskLayers" 34 y_Layers_init b_Layers_init 2 none (Cond.code y_Layers_init b_Layers_init 2 none :: BIG) (rm_Layers_init mc ms) mc ms 1 ∧ y_Layers_init.name = "<init>" ∧ (Cond.instanceMethod y_Layers_init).before args s = true :=
  ⟨cB C (mb (List.mem_of_getElem? (i := 96) (by decide +kernel)) rfl) (mb (List.mem_of_getElem? (i := 65) (by decide +kernel)) rfl) m_Layers_init rfl rfl ⟨by decide, by decide, by decide +kernel⟩ hR, rfl, C.1.2.2.2.2 _ (mb (List.mem_of_getElem? (i := 97) (by decide +kernel)) rfl)⟩
theorem cw_ML_46 (C : Cx p s m args meth c D tys cc nL "MaskLayers") {mc ms : Nat} (hR : (rm_ByteRow_init mc ms).frames + 1 ≤ R.frames ∧ 8 + (1 + 11) + (rm_ByteRow_init mc ms).locals ≤ R.locals) : va_CN R s args "MaskLayers" 46 y_ByteRow_init "MaskLayers" b_ByteRow_init 1 none (Cond.code y_ByteRow_init b_ByteRow_init 1 none :: BIG) (rm_ByteRow_init mc ms) mc ms 0 ∧ y_ByteRow_init.name = "<init>" ∧ (Cond.instanceMethod y_ByteRow_init).before args s = true :=
  ⟨cN C (mb (List.mem_of_getElem? (i := 66) (by decide +kernel)) rfl) (C.2.2.1 (.methodLinkNest "MaskLayers" 46 y_ByteRow_init "MaskLayers") (nwm (List.mem_of_getElem? (i := 141) (by decide +kernel)) rfl)) m_ByteRow_init rfl rfl ⟨by decide, by decide, by decide +kernel⟩ hR, rfl, C.1.2.2.2.2 _ (mb (List.mem_of_getElem? (i := 142) (by decide +kernel)) rfl)⟩
theorem cw_ML_56 (C : Cx p s m args meth c D tys cc nL "MaskLayers") {mc ms : Nat} (hR : (rm_Maker_init mc ms).frames + 1 ≤ R.frames ∧ 8 + (4 + 11) + (rm_Maker_init mc ms).locals ≤ R.locals) : CallB R s args "MaskLayers" 56 y_Maker_init b_Maker_init 4 none (Cond.code y_Maker_init b_Maker_init 4 none :: BIG) (rm_Maker_init mc ms) mc ms 3 ∧ y_Maker_init.name = "<init>" ∧ (Cond.instanceMethod y_Maker_init).before args s = true :=
  ⟨cB C (mb (List.mem_of_getElem? (i := 158) (by decide +kernel)) rfl) (mb (List.mem_of_getElem? (i := 67) (by decide +kernel)) rfl) m_Maker_init rfl rfl ⟨by decide, by decide, by decide +kernel⟩ hR, rfl, C.1.2.2.2.2 _ (mb (List.mem_of_getElem? (i := 159) (by decide +kernel)) rfl)⟩
theorem cw_ML_65 (C : Cx p s m args meth c D tys cc nL "MaskLayers") {mc ms : Nat} (hR : (rm_Writer_init mc ms).frames + 1 ≤ R.frames ∧ 8 + (3 + 11) + (rm_Writer_init mc ms).locals ≤ R.locals) : CallB R s args "MaskLayers" 65 y_Writer_init b_Writer_init 3 none (Cond.code y_Writer_init b_Writer_init 3 none :: BIG) (rm_Writer_init mc ms) mc ms 2 ∧ y_Writer_init.name = "<init>" ∧ (Cond.instanceMethod y_Writer_init).before args s = true :=
  ⟨cB C (mb (List.mem_of_getElem? (i := 177) (by decide +kernel)) rfl) (mb (List.mem_of_getElem? (i := 68) (by decide +kernel)) rfl) m_Writer_init rfl rfl ⟨by decide, by decide, by decide +kernel⟩ hR, rfl, C.1.2.2.2.2 _ (mb (List.mem_of_getElem? (i := 178) (by decide +kernel)) rfl)⟩
theorem cw_ML_74 (C : Cx p s m args meth c D tys cc nL "MaskLayers") {mc ms : Nat} (hR : (rm_Reader_init mc ms).frames + 1 ≤ R.frames ∧ 8 + (3 + 11) + (rm_Reader_init mc ms).locals ≤ R.locals) : CallB R s args "MaskLayers" 74 y_Reader_init b_Reader_init 3 none (Cond.code y_Reader_init b_Reader_init 3 none :: BIG) (rm_Reader_init mc ms) mc ms 2 ∧ y_Reader_init.name = "<init>" ∧ (Cond.instanceMethod y_Reader_init).before args s = true :=
  ⟨cB C (mb (List.mem_of_getElem? (i := 190) (by decide +kernel)) rfl) (mb (List.mem_of_getElem? (i := 69) (by decide +kernel)) rfl) m_Reader_init rfl rfl ⟨by decide, by decide, by decide +kernel⟩ hR, rfl, C.1.2.2.2.2 _ (mb (List.mem_of_getElem? (i := 191) (by decide +kernel)) rfl)⟩
theorem cw_ML_84 (C : Cx p s m args meth c D tys cc nL "MaskLayers") (hR : rm_ML_hasSample.frames + 1 ≤ R.frames ∧ 8 + (3 + 11) + rm_ML_hasSample.locals ≤ R.locals) : CallW R s args "MaskLayers" "MaskLayers" 84 y_ML_hasSample b_ML_hasSample 3 (some .boolean) (Cond.code y_ML_hasSample b_ML_hasSample 3 (some .boolean) :: BIG) rm_ML_hasSample 0 0 2 :=
  ⟨cB C (mb (List.mem_of_getElem? (i := 409) (by decide +kernel)) rfl) (mb (List.mem_of_getElem? (i := 63) (by decide +kernel)) rfl) m_ML_hasSample rfl rfl ⟨by decide, by decide, by decide +kernel⟩ hR, C.1.2.2.2.2 _ (mb (List.mem_of_getElem? (i := 411) (by decide +kernel)) rfl), C.1.2.2.2.2 _ (mb (List.mem_of_getElem? (i := 14) (by decide +kernel)) rfl)⟩
theorem mw_ML_9 : MW "MaskLayers" 9 Lib.Math.min.name Lib.Math.min.code := ⟨(mb (List.mem_of_getElem? (i := 88) (by decide +kernel)) rfl), (mb (List.mem_of_getElem? (i := 89) (by decide +kernel)) rfl), (mb (List.mem_of_getElem? (i := 64) (by decide +kernel)) rfl), (mb (List.mem_of_getElem? (i := 90) (by decide +kernel)) rfl)⟩
theorem pF_ML_18 (C : Cx p s m args meth c D tys cc nL "MaskLayers") (hin : meth.name = "<init>") (q0 : Nat) (ws' : va_W) {a : Nat} {fs : List Value} {v : Value} (he : ws[q0]? = some (a, .inr (5, fs))) (hl : fs.length = 12) (hw : ws.set q0 (a, .inr (5, fs.set 0 v)) = ws') (hn : narrow .int v = v) (hf : fits .int v = true) (d : decode cc pc = .ok (.putfield 18, 3)) (kk : J p l e R s m args below meth c D A (va_D A) nL Q cells slots ws' lv st (pc + 3)) : J p l e R s m args below meth c D A (va_D A) nL Q cells slots ws lv (v :: .ref a :: st) pc := by
  subst hw
  exact fun H locs ls hP hD hS h => va_putF (ty := .int) (C := cn5) (T := cf5) (N := 12) C.1.1 C.1.2.1 C.1.2.2.2.2 ch5 ct5 cg5 ce5 C.1.2.2.2.1 C.2.1 hP hD hS q0 he rfl 0 (by decide) (C.1.2.2.2.2 (.fieldLink "MaskLayers" 18 "MaskLayers" "width" "I") (mb (List.mem_of_getElem? (i := 212) (by decide +kernel)) rfl)) (fun _ h9 => h9) rfl hin rfl rfl hn hf (by rw [hl]; decide) d (fun H1 locs1 hP hD hS => kk H1 locs1 ls hP hD hS h)
theorem pF_ML_22 (C : Cx p s m args meth c D tys cc nL "MaskLayers") (hin : meth.name = "<init>") (q0 : Nat) (ws' : va_W) {a : Nat} {fs : List Value} {v : Value} (he : ws[q0]? = some (a, .inr (5, fs))) (hl : fs.length = 12) (hw : ws.set q0 (a, .inr (5, fs.set 1 v)) = ws') (hn : narrow .int v = v) (hf : fits .int v = true) (d : decode cc pc = .ok (.putfield 22, 3)) (kk : J p l e R s m args below meth c D A (va_D A) nL Q cells slots ws' lv st (pc + 3)) : J p l e R s m args below meth c D A (va_D A) nL Q cells slots ws lv (v :: .ref a :: st) pc := by
  subst hw
  exact fun H locs ls hP hD hS h => va_putF (ty := .int) (C := cn5) (T := cf5) (N := 12) C.1.1 C.1.2.1 C.1.2.2.2.2 ch5 ct5 cg5 ce5 C.1.2.2.2.1 C.2.1 hP hD hS q0 he rfl 1 (by decide) (C.1.2.2.2.2 (.fieldLink "MaskLayers" 22 "MaskLayers" "height" "I") (mb (List.mem_of_getElem? (i := 213) (by decide +kernel)) rfl)) (fun _ h9 => h9) rfl hin rfl rfl hn hf (by rw [hl]; decide) d (fun H1 locs1 hP hD hS => kk H1 locs1 ls hP hD hS h)
theorem pF_ML_25 (C : Cx p s m args meth c D tys cc nL "MaskLayers") (hin : meth.name = "<init>") (q0 : Nat) (ws' : va_W) {a : Nat} {fs : List Value} {v : Value} (he : ws[q0]? = some (a, .inr (5, fs))) (hl : fs.length = 12) (hw : ws.set q0 (a, .inr (5, fs.set 2 v)) = ws') (hn : narrow (.array .int) v = v) (hf : fits (.array .int) v = true) (d : decode cc pc = .ok (.putfield 25, 3)) (kk : J p l e R s m args below meth c D A (va_D A) nL Q cells slots ws' lv st (pc + 3)) : J p l e R s m args below meth c D A (va_D A) nL Q cells slots ws lv (v :: .ref a :: st) pc := by
  subst hw
  exact fun H locs ls hP hD hS h => va_putF (ty := (.array .int)) (C := cn5) (T := cf5) (N := 12) C.1.1 C.1.2.1 C.1.2.2.2.2 ch5 ct5 cg5 ce5 C.1.2.2.2.1 C.2.1 hP hD hS q0 he rfl 2 (by decide) (C.1.2.2.2.2 (.fieldLink "MaskLayers" 25 "MaskLayers" "colours" "[I") (mb (List.mem_of_getElem? (i := 214) (by decide +kernel)) rfl)) (fun _ h9 => h9) rfl hin rfl rfl hn hf (by rw [hl]; decide) d (fun H1 locs1 hP hD hS => kk H1 locs1 ls hP hD hS h)
theorem pF_ML_29 (C : Cx p s m args meth c D tys cc nL "MaskLayers") (hin : meth.name = "<init>") (q0 : Nat) (ws' : va_W) {a : Nat} {fs : List Value} {v : Value} (he : ws[q0]? = some (a, .inr (5, fs))) (hl : fs.length = 12) (hw : ws.set q0 (a, .inr (5, fs.set 3 v)) = ws') (hn : narrow (.array .int) v = v) (hf : fits (.array .int) v = true) (d : decode cc pc = .ok (.putfield 29, 3)) (kk : J p l e R s m args below meth c D A (va_D A) nL Q cells slots ws' lv st (pc + 3)) : J p l e R s m args below meth c D A (va_D A) nL Q cells slots ws lv (v :: .ref a :: st) pc := by
  subst hw
  exact fun H locs ls hP hD hS h => va_putF (ty := (.array .int)) (C := cn5) (T := cf5) (N := 12) C.1.1 C.1.2.1 C.1.2.2.2.2 ch5 ct5 cg5 ce5 C.1.2.2.2.1 C.2.1 hP hD hS q0 he rfl 3 (by decide) (C.1.2.2.2.2 (.fieldLink "MaskLayers" 29 "MaskLayers" "masked" "[I") (mb (List.mem_of_getElem? (i := 215) (by decide +kernel)) rfl)) (fun _ h9 => h9) rfl hin rfl rfl hn hf (by rw [hl]; decide) d (fun H1 locs1 hP hD hS => kk H1 locs1 ls hP hD hS h)
theorem pF_ML_37 (C : Cx p s m args meth c D tys cc nL "MaskLayers") (hin : meth.name = "<init>") (q0 : Nat) (ws' : va_W) {a : Nat} {fs : List Value} {v : Value} (he : ws[q0]? = some (a, .inr (5, fs))) (hl : fs.length = 12) (hw : ws.set q0 (a, .inr (5, fs.set 4 v)) = ws') (hn : narrow (.object "MaskLayers$Layers") v = v) (hf : fits (.object "MaskLayers$Layers") v = true) (d : decode cc pc = .ok (.putfield 37, 3)) (kk : J p l e R s m args below meth c D A (va_D A) nL Q cells slots ws' lv st (pc + 3)) : J p l e R s m args below meth c D A (va_D A) nL Q cells slots ws lv (v :: .ref a :: st) pc := by
  subst hw
  exact fun H locs ls hP hD hS h => va_putF (ty := (.object "MaskLayers$Layers")) (C := cn5) (T := cf5) (N := 12) C.1.1 C.1.2.1 C.1.2.2.2.2 ch5 ct5 cg5 ce5 C.1.2.2.2.1 C.2.1 hP hD hS q0 he rfl 4 (by decide) (C.1.2.2.2.2 (.fieldLink "MaskLayers" 37 "MaskLayers" "made" "LMaskLayers$Layers;") (mb (List.mem_of_getElem? (i := 216) (by decide +kernel)) rfl)) (fun _ h9 => h9) rfl hin rfl rfl hn hf (by rw [hl]; decide) d (fun H1 locs1 hP hD hS => kk H1 locs1 ls hP hD hS h)
theorem pF_ML_41 (C : Cx p s m args meth c D tys cc nL "MaskLayers") (hin : meth.name = "<init>") (q0 : Nat) (ws' : va_W) {a : Nat} {fs : List Value} {v : Value} (he : ws[q0]? = some (a, .inr (5, fs))) (hl : fs.length = 12) (hw : ws.set q0 (a, .inr (5, fs.set 5 v)) = ws') (hn : narrow (.object "MaskLayers$Layers") v = v) (hf : fits (.object "MaskLayers$Layers") v = true) (d : decode cc pc = .ok (.putfield 41, 3)) (kk : J p l e R s m args below meth c D A (va_D A) nL Q cells slots ws' lv st (pc + 3)) : J p l e R s m args below meth c D A (va_D A) nL Q cells slots ws lv (v :: .ref a :: st) pc := by
  subst hw
  exact fun H locs ls hP hD hS h => va_putF (ty := (.object "MaskLayers$Layers")) (C := cn5) (T := cf5) (N := 12) C.1.1 C.1.2.1 C.1.2.2.2.2 ch5 ct5 cg5 ce5 C.1.2.2.2.1 C.2.1 hP hD hS q0 he rfl 5 (by decide) (C.1.2.2.2.2 (.fieldLink "MaskLayers" 41 "MaskLayers" "found" "LMaskLayers$Layers;") (mb (List.mem_of_getElem? (i := 217) (by decide +kernel)) rfl)) (fun _ h9 => h9) rfl hin rfl rfl hn hf (by rw [hl]; decide) d (fun H1 locs1 hP hD hS => kk H1 locs1 ls hP hD hS h)
theorem pF_ML_47 (C : Cx p s m args meth c D tys cc nL "MaskLayers") (hin : meth.name = "<init>") (q0 : Nat) (ws' : va_W) {a : Nat} {fs : List Value} {v : Value} (he : ws[q0]? = some (a, .inr (5, fs))) (hl : fs.length = 12) (hw : ws.set q0 (a, .inr (5, fs.set 6 v)) = ws') (hn : narrow (.object "MaskLayers$ByteRow") v = v) (hf : fits (.object "MaskLayers$ByteRow") v = true) (d : decode cc pc = .ok (.putfield 47, 3)) (kk : J p l e R s m args below meth c D A (va_D A) nL Q cells slots ws' lv st (pc + 3)) : J p l e R s m args below meth c D A (va_D A) nL Q cells slots ws lv (v :: .ref a :: st) pc := by
  subst hw
  exact fun H locs ls hP hD hS h => va_putF (ty := (.object "MaskLayers$ByteRow")) (C := cn5) (T := cf5) (N := 12) C.1.1 C.1.2.1 C.1.2.2.2.2 ch5 ct5 cg5 ce5 C.1.2.2.2.1 C.2.1 hP hD hS q0 he rfl 6 (by decide) (C.1.2.2.2.2 (.fieldLink "MaskLayers" 47 "MaskLayers" "written" "LMaskLayers$ByteRow;") (mb (List.mem_of_getElem? (i := 218) (by decide +kernel)) rfl)) (fun _ h9 => h9) rfl hin rfl rfl hn hf (by rw [hl]; decide) d (fun H1 locs1 hP hD hS => kk H1 locs1 ls hP hD hS h)
theorem pF_ML_51 (C : Cx p s m args meth c D tys cc nL "MaskLayers") (hin : meth.name = "<init>") (q0 : Nat) (ws' : va_W) {a : Nat} {fs : List Value} {v : Value} (he : ws[q0]? = some (a, .inr (5, fs))) (hl : fs.length = 12) (hw : ws.set q0 (a, .inr (5, fs.set 7 v)) = ws') (hn : narrow (.object "MaskLayers$ByteRow") v = v) (hf : fits (.object "MaskLayers$ByteRow") v = true) (d : decode cc pc = .ok (.putfield 51, 3)) (kk : J p l e R s m args below meth c D A (va_D A) nL Q cells slots ws' lv st (pc + 3)) : J p l e R s m args below meth c D A (va_D A) nL Q cells slots ws lv (v :: .ref a :: st) pc := by
  subst hw
  exact fun H locs ls hP hD hS h => va_putF (ty := (.object "MaskLayers$ByteRow")) (C := cn5) (T := cf5) (N := 12) C.1.1 C.1.2.1 C.1.2.2.2.2 ch5 ct5 cg5 ce5 C.1.2.2.2.1 C.2.1 hP hD hS q0 he rfl 7 (by decide) (C.1.2.2.2.2 (.fieldLink "MaskLayers" 51 "MaskLayers" "fed" "LMaskLayers$ByteRow;") (mb (List.mem_of_getElem? (i := 219) (by decide +kernel)) rfl)) (fun _ h9 => h9) rfl hin rfl rfl hn hf (by rw [hl]; decide) d (fun H1 locs1 hP hD hS => kk H1 locs1 ls hP hD hS h)
theorem pF_ML_59 (C : Cx p s m args meth c D tys cc nL "MaskLayers") (hin : meth.name = "<init>") (q0 : Nat) (ws' : va_W) {a : Nat} {fs : List Value} {v : Value} (he : ws[q0]? = some (a, .inr (5, fs))) (hl : fs.length = 12) (hw : ws.set q0 (a, .inr (5, fs.set 8 v)) = ws') (hn : narrow (.object "MaskLayers$Maker") v = v) (hf : fits (.object "MaskLayers$Maker") v = true) (d : decode cc pc = .ok (.putfield 59, 3)) (kk : J p l e R s m args below meth c D A (va_D A) nL Q cells slots ws' lv st (pc + 3)) : J p l e R s m args below meth c D A (va_D A) nL Q cells slots ws lv (v :: .ref a :: st) pc := by
  subst hw
  exact fun H locs ls hP hD hS h => va_putF (ty := (.object "MaskLayers$Maker")) (C := cn5) (T := cf5) (N := 12) C.1.1 C.1.2.1 C.1.2.2.2.2 ch5 ct5 cg5 ce5 C.1.2.2.2.1 C.2.1 hP hD hS q0 he rfl 8 (by decide) (C.1.2.2.2.2 (.fieldLink "MaskLayers" 59 "MaskLayers" "maker" "LMaskLayers$Maker;") (mb (List.mem_of_getElem? (i := 220) (by decide +kernel)) rfl)) (fun _ h9 => h9) rfl hin rfl rfl hn hf (by rw [hl]; decide) d (fun H1 locs1 hP hD hS => kk H1 locs1 ls hP hD hS h)
theorem pF_ML_68 (C : Cx p s m args meth c D tys cc nL "MaskLayers") (hin : meth.name = "<init>") (q0 : Nat) (ws' : va_W) {a : Nat} {fs : List Value} {v : Value} (he : ws[q0]? = some (a, .inr (5, fs))) (hl : fs.length = 12) (hw : ws.set q0 (a, .inr (5, fs.set 9 v)) = ws') (hn : narrow (.object "MaskLayers$Writer") v = v) (hf : fits (.object "MaskLayers$Writer") v = true) (d : decode cc pc = .ok (.putfield 68, 3)) (kk : J p l e R s m args below meth c D A (va_D A) nL Q cells slots ws' lv st (pc + 3)) : J p l e R s m args below meth c D A (va_D A) nL Q cells slots ws lv (v :: .ref a :: st) pc := by
  subst hw
  exact fun H locs ls hP hD hS h => va_putF (ty := (.object "MaskLayers$Writer")) (C := cn5) (T := cf5) (N := 12) C.1.1 C.1.2.1 C.1.2.2.2.2 ch5 ct5 cg5 ce5 C.1.2.2.2.1 C.2.1 hP hD hS q0 he rfl 9 (by decide) (C.1.2.2.2.2 (.fieldLink "MaskLayers" 68 "MaskLayers" "writer" "LMaskLayers$Writer;") (mb (List.mem_of_getElem? (i := 221) (by decide +kernel)) rfl)) (fun _ h9 => h9) rfl hin rfl rfl hn hf (by rw [hl]; decide) d (fun H1 locs1 hP hD hS => kk H1 locs1 ls hP hD hS h)
theorem pF_ML_77 (C : Cx p s m args meth c D tys cc nL "MaskLayers") (hin : meth.name = "<init>") (q0 : Nat) (ws' : va_W) {a : Nat} {fs : List Value} {v : Value} (he : ws[q0]? = some (a, .inr (5, fs))) (hl : fs.length = 12) (hw : ws.set q0 (a, .inr (5, fs.set 10 v)) = ws') (hn : narrow (.object "MaskLayers$Reader") v = v) (hf : fits (.object "MaskLayers$Reader") v = true) (d : decode cc pc = .ok (.putfield 77, 3)) (kk : J p l e R s m args below meth c D A (va_D A) nL Q cells slots ws' lv st (pc + 3)) : J p l e R s m args below meth c D A (va_D A) nL Q cells slots ws lv (v :: .ref a :: st) pc := by
  subst hw
  exact fun H locs ls hP hD hS h => va_putF (ty := (.object "MaskLayers$Reader")) (C := cn5) (T := cf5) (N := 12) C.1.1 C.1.2.1 C.1.2.2.2.2 ch5 ct5 cg5 ce5 C.1.2.2.2.1 C.2.1 hP hD hS q0 he rfl 10 (by decide) (C.1.2.2.2.2 (.fieldLink "MaskLayers" 77 "MaskLayers" "reader" "LMaskLayers$Reader;") (mb (List.mem_of_getElem? (i := 222) (by decide +kernel)) rfl)) (fun _ h9 => h9) rfl hin rfl rfl hn hf (by rw [hl]; decide) d (fun H1 locs1 hP hD hS => kk H1 locs1 ls hP hD hS h)
theorem pF_ML_81 (C : Cx p s m args meth c D tys cc nL "MaskLayers") (q0 : Nat) (ws' : va_W) {a : Nat} {fs : List Value} {v : Value} (he : ws[q0]? = some (a, .inr (5, fs))) (hl : fs.length = 12) (hw : ws.set q0 (a, .inr (5, fs.set 11 v)) = ws') (hn : narrow .int v = v) (hf : fits .int v = true) (d : decode cc pc = .ok (.putfield 81, 3)) (kk : J p l e R s m args below meth c D A (va_D A) nL Q cells slots ws' lv st (pc + 3)) : J p l e R s m args below meth c D A (va_D A) nL Q cells slots ws lv (v :: .ref a :: st) pc := by
  subst hw
  exact fun H locs ls hP hD hS h => va_put (ty := .int) (C := cn5) (T := cf5) (N := 12) C.1.1 C.1.2.1 C.1.2.2.2.2 ch5 ct5 cg5 ce5 C.1.2.2.2.1 C.2.1 hP hD hS q0 he rfl 11 (by decide) (C.1.2.2.2.2 (.fieldLink "MaskLayers" 81 "MaskLayers" "step" "I") (mb (List.mem_of_getElem? (i := 223) (by decide +kernel)) rfl)) (fun _ h9 => h9) rfl rfl hn hf (by rw [hl]; decide) d (fun H1 locs1 hP hD hS => kk H1 locs1 ls hP hD hS h)
theorem pF_ByteRow_9 (C : Cx p s m args meth c D tys cc nL "MaskLayers$ByteRow") (q0 : Nat) (ws' : va_W) {a : Nat} {fs : List Value} {v : Value} (he : ws[q0]? = some (a, .inr (0, fs))) (hl : fs.length = 2) (hw : ws.set q0 (a, .inr (0, fs.set 0 v)) = ws') (hn : narrow (.array .int) v = v) (hf : fits (.array .int) v = true) (d : decode cc pc = .ok (.putfield 9, 3)) (kk : J p l e R s m args below meth c D A (va_D A) nL Q cells slots ws' lv st (pc + 3)) : J p l e R s m args below meth c D A (va_D A) nL Q cells slots ws lv (v :: .ref a :: st) pc := by
  subst hw
  exact fun H locs ls hP hD hS h => va_put (ty := (.array .int)) (C := cn0) (T := cf0) (N := 2) C.1.1 C.1.2.1 C.1.2.2.2.2 ch0 ct0 cg0 ce0 C.1.2.2.2.1 C.2.1 hP hD hS q0 he rfl 0 (by decide) (C.1.2.2.2.2 (.fieldLink "MaskLayers$ByteRow" 9 "MaskLayers$ByteRow" "row" "[I") (mb (List.mem_of_getElem? (i := 145) (by decide +kernel)) rfl)) (fun _ h9 => h9) rfl rfl hn hf (by rw [hl]; decide) d (fun H1 locs1 hP hD hS => kk H1 locs1 ls hP hD hS h)
theorem pF_Layers_11 (C : Cx p s m args meth c D tys cc nL "MaskLayers$Layers") (hin : meth.name = "<init>") (q0 : Nat) (ws' : va_W) {a : Nat} {fs : List Value} {v : Value} (he : ws[q0]? = some (a, .inr (1, fs))) (hl : fs.length = 8) (hw : ws.set q0 (a, .inr (1, fs.set 0 v)) = ws') (hn : narrow (.array (.array .int)) v = v) (hf : fits (.array (.array .int)) v = true) (d : decode cc pc = .ok (.putfield 11, 3)) (kk : J p l e R s m args below meth c D A (va_D A) nL Q cells slots ws' lv st (pc + 3)) : J p l e R s m args below meth c D A (va_D A) nL Q cells slots ws lv (v :: .ref a :: st) pc := by
  subst hw
  exact fun H locs ls hP hD hS h => va_putF (ty := (.array (.array .int))) (C := cn1) (T := cf1) (N := 8) C.1.1 C.1.2.1 C.1.2.2.2.2 ch1 ct1 cg1 ce1 C.1.2.2.2.1 C.2.1 hP hD hS q0 he rfl 0 (by decide) (C.1.2.2.2.2 (.fieldLink "MaskLayers$Layers" 11 "MaskLayers$Layers" "values" "[[I") (mb (List.mem_of_getElem? (i := 102) (by decide +kernel)) rfl)) (fun _ h9 => h9) rfl hin rfl rfl hn hf (by rw [hl]; decide) d (fun H1 locs1 hP hD hS => kk H1 locs1 ls hP hD hS h)
theorem pF_Layers_16 (C : Cx p s m args meth c D tys cc nL "MaskLayers$Layers") (hin : meth.name = "<init>") (q0 : Nat) (ws' : va_W) {a : Nat} {fs : List Value} {v : Value} (he : ws[q0]? = some (a, .inr (1, fs))) (hl : fs.length = 8) (hw : ws.set q0 (a, .inr (1, fs.set 1 v)) = ws') (hn : narrow (.array .int) v = v) (hf : fits (.array .int) v = true) (d : decode cc pc = .ok (.putfield 16, 3)) (kk : J p l e R s m args below meth c D A (va_D A) nL Q cells slots ws' lv st (pc + 3)) : J p l e R s m args below meth c D A (va_D A) nL Q cells slots ws lv (v :: .ref a :: st) pc := by
  subst hw
  exact fun H locs ls hP hD hS h => va_putF (ty := (.array .int)) (C := cn1) (T := cf1) (N := 8) C.1.1 C.1.2.1 C.1.2.2.2.2 ch1 ct1 cg1 ce1 C.1.2.2.2.1 C.2.1 hP hD hS q0 he rfl 1 (by decide) (C.1.2.2.2.2 (.fieldLink "MaskLayers$Layers" 16 "MaskLayers$Layers" "there" "[I") (mb (List.mem_of_getElem? (i := 103) (by decide +kernel)) rfl)) (fun _ h9 => h9) rfl hin rfl rfl hn hf (by rw [hl]; decide) d (fun H1 locs1 hP hD hS => kk H1 locs1 ls hP hD hS h)
theorem pF_Maker_15 (C : Cx p s m args meth c D tys cc nL "MaskLayers$Maker") (hin : meth.name = "<init>") (q0 : Nat) (ws' : va_W) {a : Nat} {fs : List Value} {v : Value} (he : ws[q0]? = some (a, .inr (2, fs))) (hl : fs.length = 4) (hw : ws.set q0 (a, .inr (2, fs.set 1 v)) = ws') (hn : narrow (.array .int) v = v) (hf : fits (.array .int) v = true) (d : decode cc pc = .ok (.putfield 15, 3)) (kk : J p l e R s m args below meth c D A (va_D A) nL Q cells slots ws' lv st (pc + 3)) : J p l e R s m args below meth c D A (va_D A) nL Q cells slots ws lv (v :: .ref a :: st) pc := by
  subst hw
  exact fun H locs ls hP hD hS h => va_putF (ty := (.array .int)) (C := cn2) (T := cf2) (N := 4) C.1.1 C.1.2.1 C.1.2.2.2.2 ch2 ct2 cg2 ce2 C.1.2.2.2.1 C.2.1 hP hD hS q0 he rfl 1 (by decide) (C.1.2.2.2.2 (.fieldLink "MaskLayers$Maker" 15 "MaskLayers$Maker" "colours" "[I") (mb (List.mem_of_getElem? (i := 163) (by decide +kernel)) rfl)) (fun _ h9 => h9) rfl hin rfl rfl hn hf (by rw [hl]; decide) d (fun H1 locs1 hP hD hS => kk H1 locs1 ls hP hD hS h)
theorem pF_Maker_19 (C : Cx p s m args meth c D tys cc nL "MaskLayers$Maker") (hin : meth.name = "<init>") (q0 : Nat) (ws' : va_W) {a : Nat} {fs : List Value} {v : Value} (he : ws[q0]? = some (a, .inr (2, fs))) (hl : fs.length = 4) (hw : ws.set q0 (a, .inr (2, fs.set 2 v)) = ws') (hn : narrow (.array .int) v = v) (hf : fits (.array .int) v = true) (d : decode cc pc = .ok (.putfield 19, 3)) (kk : J p l e R s m args below meth c D A (va_D A) nL Q cells slots ws' lv st (pc + 3)) : J p l e R s m args below meth c D A (va_D A) nL Q cells slots ws lv (v :: .ref a :: st) pc := by
  subst hw
  exact fun H locs ls hP hD hS h => va_putF (ty := (.array .int)) (C := cn2) (T := cf2) (N := 4) C.1.1 C.1.2.1 C.1.2.2.2.2 ch2 ct2 cg2 ce2 C.1.2.2.2.1 C.2.1 hP hD hS q0 he rfl 2 (by decide) (C.1.2.2.2.2 (.fieldLink "MaskLayers$Maker" 19 "MaskLayers$Maker" "masked" "[I") (mb (List.mem_of_getElem? (i := 164) (by decide +kernel)) rfl)) (fun _ h9 => h9) rfl hin rfl rfl hn hf (by rw [hl]; decide) d (fun H1 locs1 hP hD hS => kk H1 locs1 ls hP hD hS h)
theorem pF_Maker_22 (C : Cx p s m args meth c D tys cc nL "MaskLayers$Maker") (hin : meth.name = "<init>") (q0 : Nat) (ws' : va_W) {a : Nat} {fs : List Value} {v : Value} (he : ws[q0]? = some (a, .inr (2, fs))) (hl : fs.length = 4) (hw : ws.set q0 (a, .inr (2, fs.set 3 v)) = ws') (hn : narrow (.array .int) v = v) (hf : fits (.array .int) v = true) (d : decode cc pc = .ok (.putfield 22, 3)) (kk : J p l e R s m args below meth c D A (va_D A) nL Q cells slots ws' lv st (pc + 3)) : J p l e R s m args below meth c D A (va_D A) nL Q cells slots ws lv (v :: .ref a :: st) pc := by
  subst hw
  exact fun H locs ls hP hD hS h => va_putF (ty := (.array .int)) (C := cn2) (T := cf2) (N := 4) C.1.1 C.1.2.1 C.1.2.2.2.2 ch2 ct2 cg2 ce2 C.1.2.2.2.1 C.2.1 hP hD hS q0 he rfl 3 (by decide) (C.1.2.2.2.2 (.fieldLink "MaskLayers$Maker" 22 "MaskLayers$Maker" "bare" "[I") (mb (List.mem_of_getElem? (i := 165) (by decide +kernel)) rfl)) (fun _ h9 => h9) rfl hin rfl rfl hn hf (by rw [hl]; decide) d (fun H1 locs1 hP hD hS => kk H1 locs1 ls hP hD hS h)
theorem pF_Maker_9 (C : Cx p s m args meth c D tys cc nL "MaskLayers$Maker") (hin : meth.name = "<init>") (q0 : Nat) (ws' : va_W) {a : Nat} {fs : List Value} {v : Value} (he : ws[q0]? = some (a, .inr (2, fs))) (hl : fs.length = 4) (hw : ws.set q0 (a, .inr (2, fs.set 0 v)) = ws') (hn : narrow (.object "MaskLayers$Layers") v = v) (hf : fits (.object "MaskLayers$Layers") v = true) (d : decode cc pc = .ok (.putfield 9, 3)) (kk : J p l e R s m args below meth c D A (va_D A) nL Q cells slots ws' lv st (pc + 3)) : J p l e R s m args below meth c D A (va_D A) nL Q cells slots ws lv (v :: .ref a :: st) pc := by
  subst hw
  exact fun H locs ls hP hD hS h => va_putF (ty := (.object "MaskLayers$Layers")) (C := cn2) (T := cf2) (N := 4) C.1.1 C.1.2.1 C.1.2.2.2.2 ch2 ct2 cg2 ce2 C.1.2.2.2.1 C.2.1 hP hD hS q0 he rfl 0 (by decide) (C.1.2.2.2.2 (.fieldLink "MaskLayers$Maker" 9 "MaskLayers$Maker" "layers" "LMaskLayers$Layers;") (mb (List.mem_of_getElem? (i := 162) (by decide +kernel)) rfl)) (fun _ h9 => h9) rfl hin rfl rfl hn hf (by rw [hl]; decide) d (fun H1 locs1 hP hD hS => kk H1 locs1 ls hP hD hS h)
theorem pF_Reader_15 (C : Cx p s m args meth c D tys cc nL "MaskLayers$Reader") (hin : meth.name = "<init>") (q0 : Nat) (ws' : va_W) {a : Nat} {fs : List Value} {v : Value} (he : ws[q0]? = some (a, .inr (3, fs))) (hl : fs.length = 5) (hw : ws.set q0 (a, .inr (3, fs.set 1 v)) = ws') (hn : narrow (.object "MaskLayers$Layers") v = v) (hf : fits (.object "MaskLayers$Layers") v = true) (d : decode cc pc = .ok (.putfield 15, 3)) (kk : J p l e R s m args below meth c D A (va_D A) nL Q cells slots ws' lv st (pc + 3)) : J p l e R s m args below meth c D A (va_D A) nL Q cells slots ws lv (v :: .ref a :: st) pc := by
  subst hw
  exact fun H locs ls hP hD hS h => va_putF (ty := (.object "MaskLayers$Layers")) (C := cn3) (T := cf3) (N := 5) C.1.1 C.1.2.1 C.1.2.2.2.2 ch3 ct3 cg3 ce3 C.1.2.2.2.1 C.2.1 hP hD hS q0 he rfl 1 (by decide) (C.1.2.2.2.2 (.fieldLink "MaskLayers$Reader" 15 "MaskLayers$Reader" "layers" "LMaskLayers$Layers;") (mb (List.mem_of_getElem? (i := 197) (by decide +kernel)) rfl)) (fun _ h9 => h9) rfl hin rfl rfl hn hf (by rw [hl]; decide) d (fun H1 locs1 hP hD hS => kk H1 locs1 ls hP hD hS h)
theorem pF_Reader_23 (C : Cx p s m args meth c D tys cc nL "MaskLayers$Reader") (hin : meth.name = "<init>") (q0 : Nat) (ws' : va_W) {a : Nat} {fs : List Value} {v : Value} (he : ws[q0]? = some (a, .inr (3, fs))) (hl : fs.length = 5) (hw : ws.set q0 (a, .inr (3, fs.set 2 v)) = ws') (hn : narrow (.array .int) v = v) (hf : fits (.array .int) v = true) (d : decode cc pc = .ok (.putfield 23, 3)) (kk : J p l e R s m args below meth c D A (va_D A) nL Q cells slots ws' lv st (pc + 3)) : J p l e R s m args below meth c D A (va_D A) nL Q cells slots ws lv (v :: .ref a :: st) pc := by
  subst hw
  exact fun H locs ls hP hD hS h => va_putF (ty := (.array .int)) (C := cn3) (T := cf3) (N := 5) C.1.1 C.1.2.1 C.1.2.2.2.2 ch3 ct3 cg3 ce3 C.1.2.2.2.1 C.2.1 hP hD hS q0 he rfl 2 (by decide) (C.1.2.2.2.2 (.fieldLink "MaskLayers$Reader" 23 "MaskLayers$Reader" "head" "[I") (mb (List.mem_of_getElem? (i := 198) (by decide +kernel)) rfl)) (fun _ h9 => h9) rfl hin rfl rfl hn hf (by rw [hl]; decide) d (fun H1 locs1 hP hD hS => kk H1 locs1 ls hP hD hS h)
theorem pF_Reader_9 (C : Cx p s m args meth c D tys cc nL "MaskLayers$Reader") (hin : meth.name = "<init>") (q0 : Nat) (ws' : va_W) {a : Nat} {fs : List Value} {v : Value} (he : ws[q0]? = some (a, .inr (3, fs))) (hl : fs.length = 5) (hw : ws.set q0 (a, .inr (3, fs.set 0 v)) = ws') (hn : narrow (.object "MaskLayers$ByteRow") v = v) (hf : fits (.object "MaskLayers$ByteRow") v = true) (d : decode cc pc = .ok (.putfield 9, 3)) (kk : J p l e R s m args below meth c D A (va_D A) nL Q cells slots ws' lv st (pc + 3)) : J p l e R s m args below meth c D A (va_D A) nL Q cells slots ws lv (v :: .ref a :: st) pc := by
  subst hw
  exact fun H locs ls hP hD hS h => va_putF (ty := (.object "MaskLayers$ByteRow")) (C := cn3) (T := cf3) (N := 5) C.1.1 C.1.2.1 C.1.2.2.2.2 ch3 ct3 cg3 ce3 C.1.2.2.2.1 C.2.1 hP hD hS q0 he rfl 0 (by decide) (C.1.2.2.2.2 (.fieldLink "MaskLayers$Reader" 9 "MaskLayers$Reader" "bytes" "LMaskLayers$ByteRow;") (mb (List.mem_of_getElem? (i := 196) (by decide +kernel)) rfl)) (fun _ h9 => h9) rfl hin rfl rfl hn hf (by rw [hl]; decide) d (fun H1 locs1 hP hD hS => kk H1 locs1 ls hP hD hS h)
theorem pF_Writer_15 (C : Cx p s m args meth c D tys cc nL "MaskLayers$Writer") (hin : meth.name = "<init>") (q0 : Nat) (ws' : va_W) {a : Nat} {fs : List Value} {v : Value} (he : ws[q0]? = some (a, .inr (4, fs))) (hl : fs.length = 2) (hw : ws.set q0 (a, .inr (4, fs.set 1 v)) = ws') (hn : narrow (.object "MaskLayers$ByteRow") v = v) (hf : fits (.object "MaskLayers$ByteRow") v = true) (d : decode cc pc = .ok (.putfield 15, 3)) (kk : J p l e R s m args below meth c D A (va_D A) nL Q cells slots ws' lv st (pc + 3)) : J p l e R s m args below meth c D A (va_D A) nL Q cells slots ws lv (v :: .ref a :: st) pc := by
  subst hw
  exact fun H locs ls hP hD hS h => va_putF (ty := (.object "MaskLayers$ByteRow")) (C := cn4) (T := cf4) (N := 2) C.1.1 C.1.2.1 C.1.2.2.2.2 ch4 ct4 cg4 ce4 C.1.2.2.2.1 C.2.1 hP hD hS q0 he rfl 1 (by decide) (C.1.2.2.2.2 (.fieldLink "MaskLayers$Writer" 15 "MaskLayers$Writer" "bytes" "LMaskLayers$ByteRow;") (mb (List.mem_of_getElem? (i := 182) (by decide +kernel)) rfl)) (fun _ h9 => h9) rfl hin rfl rfl hn hf (by rw [hl]; decide) d (fun H1 locs1 hP hD hS => kk H1 locs1 ls hP hD hS h)
theorem pF_Writer_9 (C : Cx p s m args meth c D tys cc nL "MaskLayers$Writer") (hin : meth.name = "<init>") (q0 : Nat) (ws' : va_W) {a : Nat} {fs : List Value} {v : Value} (he : ws[q0]? = some (a, .inr (4, fs))) (hl : fs.length = 2) (hw : ws.set q0 (a, .inr (4, fs.set 0 v)) = ws') (hn : narrow (.object "MaskLayers$Layers") v = v) (hf : fits (.object "MaskLayers$Layers") v = true) (d : decode cc pc = .ok (.putfield 9, 3)) (kk : J p l e R s m args below meth c D A (va_D A) nL Q cells slots ws' lv st (pc + 3)) : J p l e R s m args below meth c D A (va_D A) nL Q cells slots ws lv (v :: .ref a :: st) pc := by
  subst hw
  exact fun H locs ls hP hD hS h => va_putF (ty := (.object "MaskLayers$Layers")) (C := cn4) (T := cf4) (N := 2) C.1.1 C.1.2.1 C.1.2.2.2.2 ch4 ct4 cg4 ce4 C.1.2.2.2.1 C.2.1 hP hD hS q0 he rfl 0 (by decide) (C.1.2.2.2.2 (.fieldLink "MaskLayers$Writer" 9 "MaskLayers$Writer" "layers" "LMaskLayers$Layers;") (mb (List.mem_of_getElem? (i := 181) (by decide +kernel)) rfl)) (fun _ h9 => h9) rfl hin rfl rfl hn hf (by rw [hl]; decide) d (fun H1 locs1 hP hD hS => kk H1 locs1 ls hP hD hS h)
theorem nw_ML_32 (C : Cx p s m args meth c D tys cc nL "MaskLayers") (hA : ∀ q, s.heap.size ≤ q → A q) (hcells : cells + 1 ≤ R.cells) (hslots : slots + 8 ≤ R.slots) (d : decode cc pc = .ok (.new 32, 3)) (kk : ∀ q : Nat, J p l e R s m args below meth c D A (va_D A) nL Q (cells + 1) (slots + 8) (ws ++ [(q, .inr (1, [.null, .null, .int 0, .int 0, .int 0, .int 0, .int 0, .int 0]))]) lv (.ref q :: st) (pc + 3)) : J p l e R s m args below meth c D A (va_D A) nL Q cells slots ws lv st pc :=
  fun H locs ls hP hD hS h => va_new (ci := 1) (fs := [.null, .null, .int 0, .int 0, .int 0, .int 0, .int 0, .int 0]) (C := cn1) (T := cf1) (N := 8) C.1.1 C.1.2.1 C.1.2.2.2.2 ch1 ct1 cg1 C.1.2.2.2.1 (C.1.2.2.2.2 _ (mb (List.mem_of_getElem? (i := 94) (by decide +kernel)) rfl)) (C.1.2.2.2.2 _ (mb (List.mem_of_getElem? (i := 95) (by decide +kernel)) rfl)) (C.1.2.2.2.2 _ (mb (List.mem_of_getElem? (i := 65) (by decide +kernel)) rfl)) C.2.1 hP hD hS hA rfl (by intro j hj; rcases (by omega : j = 0 ∨ j = 1 ∨ j = 2 ∨ j = 3 ∨ j = 4 ∨ j = 5 ∨ j = 6 ∨ j = 7) with rfl | rfl | rfl | rfl | rfl | rfl | rfl | rfl <;> rfl) hcells hslots d (fun q H1 hP hD hS => kk q H1 locs ls hP hD hS h)
theorem nw_ML_44 (C : Cx p s m args meth c D tys cc nL "MaskLayers") (hA : ∀ q, s.heap.size ≤ q → A q) (hcells : cells + 1 ≤ R.cells) (hslots : slots + 2 ≤ R.slots) (d : decode cc pc = .ok (.new 44, 3)) (kk : ∀ q : Nat, J p l e R s m args below meth c D A (va_D A) nL Q (cells + 1) (slots + 2) (ws ++ [(q, .inr (0, [.null, .int 0]))]) lv (.ref q :: st) (pc + 3)) : J p l e R s m args below meth c D A (va_D A) nL Q cells slots ws lv st pc :=
  fun H locs ls hP hD hS h => va_new (ci := 0) (fs := [.null, .int 0]) (C := cn0) (T := cf0) (N := 2) C.1.1 C.1.2.1 C.1.2.2.2.2 ch0 ct0 cg0 C.1.2.2.2.1 (C.1.2.2.2.2 _ (mb (List.mem_of_getElem? (i := 139) (by decide +kernel)) rfl)) (C.1.2.2.2.2 _ (mb (List.mem_of_getElem? (i := 140) (by decide +kernel)) rfl)) (C.1.2.2.2.2 _ (mb (List.mem_of_getElem? (i := 66) (by decide +kernel)) rfl)) C.2.1 hP hD hS hA rfl (by intro j hj; rcases (by omega : j = 0 ∨ j = 1) with rfl | rfl <;> rfl) hcells hslots d (fun q H1 hP hD hS => kk q H1 locs ls hP hD hS h)
theorem nw_ML_54 (C : Cx p s m args meth c D tys cc nL "MaskLayers") (hA : ∀ q, s.heap.size ≤ q → A q) (hcells : cells + 1 ≤ R.cells) (hslots : slots + 4 ≤ R.slots) (d : decode cc pc = .ok (.new 54, 3)) (kk : ∀ q : Nat, J p l e R s m args below meth c D A (va_D A) nL Q (cells + 1) (slots + 4) (ws ++ [(q, .inr (2, [.null, .null, .null, .null]))]) lv (.ref q :: st) (pc + 3)) : J p l e R s m args below meth c D A (va_D A) nL Q cells slots ws lv st pc :=
  fun H locs ls hP hD hS h => va_new (ci := 2) (fs := [.null, .null, .null, .null]) (C := cn2) (T := cf2) (N := 4) C.1.1 C.1.2.1 C.1.2.2.2.2 ch2 ct2 cg2 C.1.2.2.2.1 (C.1.2.2.2.2 _ (mb (List.mem_of_getElem? (i := 156) (by decide +kernel)) rfl)) (C.1.2.2.2.2 _ (mb (List.mem_of_getElem? (i := 157) (by decide +kernel)) rfl)) (C.1.2.2.2.2 _ (mb (List.mem_of_getElem? (i := 67) (by decide +kernel)) rfl)) C.2.1 hP hD hS hA rfl (by intro j hj; rcases (by omega : j = 0 ∨ j = 1 ∨ j = 2 ∨ j = 3) with rfl | rfl | rfl | rfl <;> rfl) hcells hslots d (fun q H1 hP hD hS => kk q H1 locs ls hP hD hS h)
theorem nw_ML_63 (C : Cx p s m args meth c D tys cc nL "MaskLayers") (hA : ∀ q, s.heap.size ≤ q → A q) (hcells : cells + 1 ≤ R.cells) (hslots : slots + 2 ≤ R.slots) (d : decode cc pc = .ok (.new 63, 3)) (kk : ∀ q : Nat, J p l e R s m args below meth c D A (va_D A) nL Q (cells + 1) (slots + 2) (ws ++ [(q, .inr (4, [.null, .null]))]) lv (.ref q :: st) (pc + 3)) : J p l e R s m args below meth c D A (va_D A) nL Q cells slots ws lv st pc :=
  fun H locs ls hP hD hS h => va_new (ci := 4) (fs := [.null, .null]) (C := cn4) (T := cf4) (N := 2) C.1.1 C.1.2.1 C.1.2.2.2.2 ch4 ct4 cg4 C.1.2.2.2.1 (C.1.2.2.2.2 _ (mb (List.mem_of_getElem? (i := 175) (by decide +kernel)) rfl)) (C.1.2.2.2.2 _ (mb (List.mem_of_getElem? (i := 176) (by decide +kernel)) rfl)) (C.1.2.2.2.2 _ (mb (List.mem_of_getElem? (i := 68) (by decide +kernel)) rfl)) C.2.1 hP hD hS hA rfl (by intro j hj; rcases (by omega : j = 0 ∨ j = 1) with rfl | rfl <;> rfl) hcells hslots d (fun q H1 hP hD hS => kk q H1 locs ls hP hD hS h)
theorem nw_ML_72 (C : Cx p s m args meth c D tys cc nL "MaskLayers") (hA : ∀ q, s.heap.size ≤ q → A q) (hcells : cells + 1 ≤ R.cells) (hslots : slots + 5 ≤ R.slots) (d : decode cc pc = .ok (.new 72, 3)) (kk : ∀ q : Nat, J p l e R s m args below meth c D A (va_D A) nL Q (cells + 1) (slots + 5) (ws ++ [(q, .inr (3, [.null, .null, .null, .int 0, .int 0]))]) lv (.ref q :: st) (pc + 3)) : J p l e R s m args below meth c D A (va_D A) nL Q cells slots ws lv st pc :=
  fun H locs ls hP hD hS h => va_new (ci := 3) (fs := [.null, .null, .null, .int 0, .int 0]) (C := cn3) (T := cf3) (N := 5) C.1.1 C.1.2.1 C.1.2.2.2.2 ch3 ct3 cg3 C.1.2.2.2.1 (C.1.2.2.2.2 _ (mb (List.mem_of_getElem? (i := 188) (by decide +kernel)) rfl)) (C.1.2.2.2.2 _ (mb (List.mem_of_getElem? (i := 189) (by decide +kernel)) rfl)) (C.1.2.2.2.2 _ (mb (List.mem_of_getElem? (i := 69) (by decide +kernel)) rfl)) C.2.1 hP hD hS hA rfl (by intro j hj; rcases (by omega : j = 0 ∨ j = 1 ∨ j = 2 ∨ j = 3 ∨ j = 4) with rfl | rfl | rfl | rfl | rfl <;> rfl) hcells hslots d (fun q H1 hP hD hS => kk q H1 locs ls hP hD hS h)
end W2
