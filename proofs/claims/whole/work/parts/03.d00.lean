abbrev b_ML_isByte : ByteArray := prog_1_method_21_code
def y_ML_isByte : MethodName := ⟨"MaskLayers", "isByte", "(I)Z"⟩
theorem d_ML_isByte_0 : decode b_ML_isByte 0 = .ok (.iload_n 0, 1) := by decide +kernel
theorem d_ML_isByte_1 : decode b_ML_isByte 1 = .ok (.ifCond .lt 14, 3) := by decide +kernel
theorem d_ML_isByte_4 : decode b_ML_isByte 4 = .ok (.iload_n 0, 1) := by decide +kernel
theorem d_ML_isByte_5 : decode b_ML_isByte 5 = .ok (.sipush 255, 3) := by decide +kernel
theorem d_ML_isByte_8 : decode b_ML_isByte 8 = .ok (.if_icmp .gt 7, 3) := by decide +kernel
theorem d_ML_isByte_11 : decode b_ML_isByte 11 = .ok (.iconst 1, 1) := by decide +kernel
theorem d_ML_isByte_12 : decode b_ML_isByte 12 = .ok (.goto 4, 3) := by decide +kernel
theorem d_ML_isByte_15 : decode b_ML_isByte 15 = .ok (.iconst 0, 1) := by decide +kernel
theorem d_ML_isByte_16 : decode b_ML_isByte 16 = .ok (.ireturn, 1) := by decide +kernel
abbrev b_ML_parts : ByteArray := prog_1_method_22_code
def y_ML_parts : MethodName := ⟨"MaskLayers", "parts", "(II)I"⟩
theorem d_ML_parts_0 : decode b_ML_parts 0 = .ok (.iload_n 1, 1) := by decide +kernel
theorem d_ML_parts_1 : decode b_ML_parts 1 = .ok (.iconst 1, 1) := by decide +kernel
theorem d_ML_parts_2 : decode b_ML_parts 2 = .ok (.if_icmp .ge 7, 3) := by decide +kernel
theorem d_ML_parts_5 : decode b_ML_parts 5 = .ok (.iconst 0, 1) := by decide +kernel
theorem d_ML_parts_6 : decode b_ML_parts 6 = .ok (.goto 10, 3) := by decide +kernel
theorem d_ML_parts_9 : decode b_ML_parts 9 = .ok (.iload_n 0, 1) := by decide +kernel
theorem d_ML_parts_10 : decode b_ML_parts 10 = .ok (.iload_n 1, 1) := by decide +kernel
theorem d_ML_parts_11 : decode b_ML_parts 11 = .ok (.iadd, 1) := by decide +kernel
theorem d_ML_parts_12 : decode b_ML_parts 12 = .ok (.iconst 1, 1) := by decide +kernel
theorem d_ML_parts_13 : decode b_ML_parts 13 = .ok (.isub, 1) := by decide +kernel
theorem d_ML_parts_14 : decode b_ML_parts 14 = .ok (.iload_n 1, 1) := by decide +kernel
theorem d_ML_parts_15 : decode b_ML_parts 15 = .ok (.idiv, 1) := by decide +kernel
theorem d_ML_parts_16 : decode b_ML_parts 16 = .ok (.ireturn, 1) := by decide +kernel
abbrev b_ML_red : ByteArray := prog_1_method_23_code
def y_ML_red : MethodName := ⟨"MaskLayers", "red", "(I)I"⟩
theorem d_ML_red_0 : decode b_ML_red 0 = .ok (.iload_n 0, 1) := by decide +kernel
theorem d_ML_red_1 : decode b_ML_red 1 = .ok (.bipush 16, 2) := by decide +kernel
theorem d_ML_red_3 : decode b_ML_red 3 = .ok (.ishr, 1) := by decide +kernel
theorem d_ML_red_4 : decode b_ML_red 4 = .ok (.sipush 255, 3) := by decide +kernel
theorem d_ML_red_7 : decode b_ML_red 7 = .ok (.iand, 1) := by decide +kernel
theorem d_ML_red_8 : decode b_ML_red 8 = .ok (.ireturn, 1) := by decide +kernel
abbrev b_ML_green : ByteArray := prog_1_method_24_code
def y_ML_green : MethodName := ⟨"MaskLayers", "green", "(I)I"⟩
theorem d_ML_green_0 : decode b_ML_green 0 = .ok (.iload_n 0, 1) := by decide +kernel
theorem d_ML_green_1 : decode b_ML_green 1 = .ok (.bipush 8, 2) := by decide +kernel
theorem d_ML_green_3 : decode b_ML_green 3 = .ok (.ishr, 1) := by decide +kernel
theorem d_ML_green_4 : decode b_ML_green 4 = .ok (.sipush 255, 3) := by decide +kernel
theorem d_ML_green_7 : decode b_ML_green 7 = .ok (.iand, 1) := by decide +kernel
theorem d_ML_green_8 : decode b_ML_green 8 = .ok (.ireturn, 1) := by decide +kernel
abbrev b_ML_blue : ByteArray := prog_1_method_25_code
def y_ML_blue : MethodName := ⟨"MaskLayers", "blue", "(I)I"⟩
theorem d_ML_blue_0 : decode b_ML_blue 0 = .ok (.iload_n 0, 1) := by decide +kernel
theorem d_ML_blue_1 : decode b_ML_blue 1 = .ok (.sipush 255, 3) := by decide +kernel
theorem d_ML_blue_4 : decode b_ML_blue 4 = .ok (.iand, 1) := by decide +kernel
theorem d_ML_blue_5 : decode b_ML_blue 5 = .ok (.ireturn, 1) := by decide +kernel
abbrev b_ML_colourOf : ByteArray := prog_1_method_26_code
def y_ML_colourOf : MethodName := ⟨"MaskLayers", "colourOf", "(III)I"⟩
theorem d_ML_colourOf_0 : decode b_ML_colourOf 0 = .ok (.iload_n 0, 1) := by decide +kernel
theorem d_ML_colourOf_1 : decode b_ML_colourOf 1 = .ok (.sipush 255, 3) := by decide +kernel
theorem d_ML_colourOf_4 : decode b_ML_colourOf 4 = .ok (.iand, 1) := by decide +kernel
theorem d_ML_colourOf_5 : decode b_ML_colourOf 5 = .ok (.bipush 16, 2) := by decide +kernel
theorem d_ML_colourOf_7 : decode b_ML_colourOf 7 = .ok (.ishl, 1) := by decide +kernel
theorem d_ML_colourOf_8 : decode b_ML_colourOf 8 = .ok (.iload_n 1, 1) := by decide +kernel
theorem d_ML_colourOf_9 : decode b_ML_colourOf 9 = .ok (.sipush 255, 3) := by decide +kernel
theorem d_ML_colourOf_12 : decode b_ML_colourOf 12 = .ok (.iand, 1) := by decide +kernel
theorem d_ML_colourOf_13 : decode b_ML_colourOf 13 = .ok (.bipush 8, 2) := by decide +kernel
theorem d_ML_colourOf_15 : decode b_ML_colourOf 15 = .ok (.ishl, 1) := by decide +kernel
theorem d_ML_colourOf_16 : decode b_ML_colourOf 16 = .ok (.ior, 1) := by decide +kernel
theorem d_ML_colourOf_17 : decode b_ML_colourOf 17 = .ok (.iload_n 2, 1) := by decide +kernel
theorem d_ML_colourOf_18 : decode b_ML_colourOf 18 = .ok (.sipush 255, 3) := by decide +kernel
theorem d_ML_colourOf_21 : decode b_ML_colourOf 21 = .ok (.iand, 1) := by decide +kernel
theorem d_ML_colourOf_22 : decode b_ML_colourOf 22 = .ok (.ior, 1) := by decide +kernel
theorem d_ML_colourOf_23 : decode b_ML_colourOf 23 = .ok (.ireturn, 1) := by decide +kernel
abbrev b_ML_sum : ByteArray := prog_1_method_27_code
def y_ML_sum : MethodName := ⟨"MaskLayers", "sum", "(II)I"⟩
theorem d_ML_sum_0 : decode b_ML_sum 0 = .ok (.iload_n 0, 1) := by decide +kernel
theorem d_ML_sum_1 : decode b_ML_sum 1 = .ok (.invokestatic 206, 3) := by decide +kernel
theorem d_ML_sum_4 : decode b_ML_sum 4 = .ok (.iload_n 1, 1) := by decide +kernel
theorem d_ML_sum_5 : decode b_ML_sum 5 = .ok (.invokestatic 206, 3) := by decide +kernel
theorem d_ML_sum_8 : decode b_ML_sum 8 = .ok (.iadd, 1) := by decide +kernel
theorem d_ML_sum_9 : decode b_ML_sum 9 = .ok (.iload_n 0, 1) := by decide +kernel
theorem d_ML_sum_10 : decode b_ML_sum 10 = .ok (.invokestatic 209, 3) := by decide +kernel
theorem d_ML_sum_13 : decode b_ML_sum 13 = .ok (.iload_n 1, 1) := by decide +kernel
theorem d_ML_sum_14 : decode b_ML_sum 14 = .ok (.invokestatic 209, 3) := by decide +kernel
theorem d_ML_sum_17 : decode b_ML_sum 17 = .ok (.iadd, 1) := by decide +kernel
theorem d_ML_sum_18 : decode b_ML_sum 18 = .ok (.iload_n 0, 1) := by decide +kernel
theorem d_ML_sum_19 : decode b_ML_sum 19 = .ok (.invokestatic 212, 3) := by decide +kernel
theorem d_ML_sum_22 : decode b_ML_sum 22 = .ok (.iload_n 1, 1) := by decide +kernel
theorem d_ML_sum_23 : decode b_ML_sum 23 = .ok (.invokestatic 212, 3) := by decide +kernel
theorem d_ML_sum_26 : decode b_ML_sum 26 = .ok (.iadd, 1) := by decide +kernel
theorem d_ML_sum_27 : decode b_ML_sum 27 = .ok (.invokestatic 215, 3) := by decide +kernel
theorem d_ML_sum_30 : decode b_ML_sum 30 = .ok (.ireturn, 1) := by decide +kernel
abbrev b_ML_difference : ByteArray := prog_1_method_28_code
def y_ML_difference : MethodName := ⟨"MaskLayers", "difference", "(II)I"⟩
theorem d_ML_difference_0 : decode b_ML_difference 0 = .ok (.iload_n 0, 1) := by decide +kernel
theorem d_ML_difference_1 : decode b_ML_difference 1 = .ok (.invokestatic 206, 3) := by decide +kernel
theorem d_ML_difference_4 : decode b_ML_difference 4 = .ok (.iload_n 1, 1) := by decide +kernel
theorem d_ML_difference_5 : decode b_ML_difference 5 = .ok (.invokestatic 206, 3) := by decide +kernel
theorem d_ML_difference_8 : decode b_ML_difference 8 = .ok (.isub, 1) := by decide +kernel
theorem d_ML_difference_9 : decode b_ML_difference 9 = .ok (.iload_n 0, 1) := by decide +kernel
theorem d_ML_difference_10 : decode b_ML_difference 10 = .ok (.invokestatic 209, 3) := by decide +kernel
theorem d_ML_difference_13 : decode b_ML_difference 13 = .ok (.iload_n 1, 1) := by decide +kernel
theorem d_ML_difference_14 : decode b_ML_difference 14 = .ok (.invokestatic 209, 3) := by decide +kernel
theorem d_ML_difference_17 : decode b_ML_difference 17 = .ok (.isub, 1) := by decide +kernel
theorem d_ML_difference_18 : decode b_ML_difference 18 = .ok (.iload_n 0, 1) := by decide +kernel
theorem d_ML_difference_19 : decode b_ML_difference 19 = .ok (.invokestatic 212, 3) := by decide +kernel
theorem d_ML_difference_22 : decode b_ML_difference 22 = .ok (.iload_n 1, 1) := by decide +kernel
theorem d_ML_difference_23 : decode b_ML_difference 23 = .ok (.invokestatic 212, 3) := by decide +kernel
theorem d_ML_difference_26 : decode b_ML_difference 26 = .ok (.isub, 1) := by decide +kernel
theorem d_ML_difference_27 : decode b_ML_difference 27 = .ok (.invokestatic 215, 3) := by decide +kernel
theorem d_ML_difference_30 : decode b_ML_difference 30 = .ok (.ireturn, 1) := by decide +kernel
abbrev b_ML_middle : ByteArray := prog_1_method_29_code
def y_ML_middle : MethodName := ⟨"MaskLayers", "middle", "(II)I"⟩
theorem d_ML_middle_0 : decode b_ML_middle 0 = .ok (.iload_n 0, 1) := by decide +kernel
theorem d_ML_middle_1 : decode b_ML_middle 1 = .ok (.invokestatic 206, 3) := by decide +kernel
theorem d_ML_middle_4 : decode b_ML_middle 4 = .ok (.iload_n 1, 1) := by decide +kernel
theorem d_ML_middle_5 : decode b_ML_middle 5 = .ok (.invokestatic 206, 3) := by decide +kernel
theorem d_ML_middle_8 : decode b_ML_middle 8 = .ok (.iadd, 1) := by decide +kernel
theorem d_ML_middle_9 : decode b_ML_middle 9 = .ok (.iconst 2, 1) := by decide +kernel
theorem d_ML_middle_10 : decode b_ML_middle 10 = .ok (.idiv, 1) := by decide +kernel
theorem d_ML_middle_11 : decode b_ML_middle 11 = .ok (.iload_n 0, 1) := by decide +kernel
theorem d_ML_middle_12 : decode b_ML_middle 12 = .ok (.invokestatic 209, 3) := by decide +kernel
theorem d_ML_middle_15 : decode b_ML_middle 15 = .ok (.iload_n 1, 1) := by decide +kernel
theorem d_ML_middle_16 : decode b_ML_middle 16 = .ok (.invokestatic 209, 3) := by decide +kernel
theorem d_ML_middle_19 : decode b_ML_middle 19 = .ok (.iadd, 1) := by decide +kernel
theorem d_ML_middle_20 : decode b_ML_middle 20 = .ok (.iconst 2, 1) := by decide +kernel
theorem d_ML_middle_21 : decode b_ML_middle 21 = .ok (.idiv, 1) := by decide +kernel
theorem d_ML_middle_22 : decode b_ML_middle 22 = .ok (.iload_n 0, 1) := by decide +kernel
theorem d_ML_middle_23 : decode b_ML_middle 23 = .ok (.invokestatic 212, 3) := by decide +kernel
theorem d_ML_middle_26 : decode b_ML_middle 26 = .ok (.iload_n 1, 1) := by decide +kernel
theorem d_ML_middle_27 : decode b_ML_middle 27 = .ok (.invokestatic 212, 3) := by decide +kernel
theorem d_ML_middle_30 : decode b_ML_middle 30 = .ok (.iadd, 1) := by decide +kernel
theorem d_ML_middle_31 : decode b_ML_middle 31 = .ok (.iconst 2, 1) := by decide +kernel
theorem d_ML_middle_32 : decode b_ML_middle 32 = .ok (.idiv, 1) := by decide +kernel
theorem d_ML_middle_33 : decode b_ML_middle 33 = .ok (.invokestatic 215, 3) := by decide +kernel
theorem d_ML_middle_36 : decode b_ML_middle 36 = .ok (.ireturn, 1) := by decide +kernel
abbrev b_ML_mean : ByteArray := prog_1_method_30_code
def y_ML_mean : MethodName := ⟨"MaskLayers", "mean", "(II)I"⟩
theorem d_ML_mean_0 : decode b_ML_mean 0 = .ok (.iload_n 1, 1) := by decide +kernel
theorem d_ML_mean_1 : decode b_ML_mean 1 = .ok (.iconst 1, 1) := by decide +kernel
theorem d_ML_mean_2 : decode b_ML_mean 2 = .ok (.if_icmp .ge 7, 3) := by decide +kernel
theorem d_ML_mean_5 : decode b_ML_mean 5 = .ok (.iconst 0, 1) := by decide +kernel
theorem d_ML_mean_6 : decode b_ML_mean 6 = .ok (.goto 12, 3) := by decide +kernel
theorem d_ML_mean_9 : decode b_ML_mean 9 = .ok (.iconst 2, 1) := by decide +kernel
theorem d_ML_mean_10 : decode b_ML_mean 10 = .ok (.iload_n 0, 1) := by decide +kernel
theorem d_ML_mean_11 : decode b_ML_mean 11 = .ok (.imul, 1) := by decide +kernel
theorem d_ML_mean_12 : decode b_ML_mean 12 = .ok (.iload_n 1, 1) := by decide +kernel
theorem d_ML_mean_13 : decode b_ML_mean 13 = .ok (.iadd, 1) := by decide +kernel
theorem d_ML_mean_14 : decode b_ML_mean 14 = .ok (.iconst 2, 1) := by decide +kernel
theorem d_ML_mean_15 : decode b_ML_mean 15 = .ok (.iload_n 1, 1) := by decide +kernel
theorem d_ML_mean_16 : decode b_ML_mean 16 = .ok (.imul, 1) := by decide +kernel
theorem d_ML_mean_17 : decode b_ML_mean 17 = .ok (.idiv, 1) := by decide +kernel
theorem d_ML_mean_18 : decode b_ML_mean 18 = .ok (.ireturn, 1) := by decide +kernel
abbrev b_ML_plainBytes : ByteArray := prog_1_method_31_code
def y_ML_plainBytes : MethodName := ⟨"MaskLayers", "plainBytes", "(II)I"⟩
theorem d_ML_plainBytes_0 : decode b_ML_plainBytes 0 = .ok (.iload_n 0, 1) := by decide +kernel
theorem d_ML_plainBytes_1 : decode b_ML_plainBytes 1 = .ok (.iconst 1, 1) := by decide +kernel
theorem d_ML_plainBytes_2 : decode b_ML_plainBytes 2 = .ok (.if_icmp .ne 12, 3) := by decide +kernel
theorem d_ML_plainBytes_5 : decode b_ML_plainBytes 5 = .ok (.iload_n 1, 1) := by decide +kernel
theorem d_ML_plainBytes_6 : decode b_ML_plainBytes 6 = .ok (.bipush 8, 2) := by decide +kernel
theorem d_ML_plainBytes_8 : decode b_ML_plainBytes 8 = .ok (.invokestatic 109, 3) := by decide +kernel
theorem d_ML_plainBytes_11 : decode b_ML_plainBytes 11 = .ok (.goto 6, 3) := by decide +kernel
theorem d_ML_plainBytes_14 : decode b_ML_plainBytes 14 = .ok (.iconst 3, 1) := by decide +kernel
theorem d_ML_plainBytes_15 : decode b_ML_plainBytes 15 = .ok (.iload_n 1, 1) := by decide +kernel
theorem d_ML_plainBytes_16 : decode b_ML_plainBytes 16 = .ok (.imul, 1) := by decide +kernel
theorem d_ML_plainBytes_17 : decode b_ML_plainBytes 17 = .ok (.ireturn, 1) := by decide +kernel
abbrev b_Layers_holdsStripe : ByteArray := prog_3_method_4_code
def y_Layers_holdsStripe : MethodName := ⟨"MaskLayers$Layers", "holdsStripe", "(I)Z"⟩
theorem d_Layers_holdsStripe_0 : decode b_Layers_holdsStripe 0 = .ok (.iload_n 1, 1) := by decide +kernel
theorem d_Layers_holdsStripe_1 : decode b_Layers_holdsStripe 1 = .ok (.ifCond .lt 16, 3) := by decide +kernel
theorem d_Layers_holdsStripe_4 : decode b_Layers_holdsStripe 4 = .ok (.iload_n 1, 1) := by decide +kernel
theorem d_Layers_holdsStripe_5 : decode b_Layers_holdsStripe 5 = .ok (.aload_n 0, 1) := by decide +kernel
theorem d_Layers_holdsStripe_6 : decode b_Layers_holdsStripe 6 = .ok (.getfield 16, 3) := by decide +kernel
theorem d_Layers_holdsStripe_9 : decode b_Layers_holdsStripe 9 = .ok (.arraylength, 1) := by decide +kernel
theorem d_Layers_holdsStripe_10 : decode b_Layers_holdsStripe 10 = .ok (.if_icmp .ge 7, 3) := by decide +kernel
theorem d_Layers_holdsStripe_13 : decode b_Layers_holdsStripe 13 = .ok (.iconst 1, 1) := by decide +kernel
theorem d_Layers_holdsStripe_14 : decode b_Layers_holdsStripe 14 = .ok (.goto 4, 3) := by decide +kernel
theorem d_Layers_holdsStripe_17 : decode b_Layers_holdsStripe 17 = .ok (.iconst 0, 1) := by decide +kernel
theorem d_Layers_holdsStripe_18 : decode b_Layers_holdsStripe 18 = .ok (.ireturn, 1) := by decide +kernel
abbrev b_Layers_has : ByteArray := prog_3_method_6_code
def y_Layers_has : MethodName := ⟨"MaskLayers$Layers", "has", "(II)Z"⟩
theorem d_Layers_has_0 : decode b_Layers_has 0 = .ok (.aload_n 0, 1) := by decide +kernel
theorem d_Layers_has_1 : decode b_Layers_has 1 = .ok (.iload_n 1, 1) := by decide +kernel
theorem d_Layers_has_2 : decode b_Layers_has 2 = .ok (.invokevirtual 45, 3) := by decide +kernel
theorem d_Layers_has_5 : decode b_Layers_has 5 = .ok (.ifCond .eq 21, 3) := by decide +kernel
theorem d_Layers_has_8 : decode b_Layers_has 8 = .ok (.aload_n 0, 1) := by decide +kernel
theorem d_Layers_has_9 : decode b_Layers_has 9 = .ok (.getfield 16, 3) := by decide +kernel
theorem d_Layers_has_12 : decode b_Layers_has 12 = .ok (.iload_n 1, 1) := by decide +kernel
theorem d_Layers_has_13 : decode b_Layers_has 13 = .ok (.iaload, 1) := by decide +kernel
theorem d_Layers_has_14 : decode b_Layers_has 14 = .ok (.iload_n 2, 1) := by decide +kernel
theorem d_Layers_has_15 : decode b_Layers_has 15 = .ok (.ishr, 1) := by decide +kernel
theorem d_Layers_has_16 : decode b_Layers_has 16 = .ok (.iconst 1, 1) := by decide +kernel
theorem d_Layers_has_17 : decode b_Layers_has 17 = .ok (.iand, 1) := by decide +kernel
theorem d_Layers_has_18 : decode b_Layers_has 18 = .ok (.iconst 1, 1) := by decide +kernel
theorem d_Layers_has_19 : decode b_Layers_has 19 = .ok (.if_icmp .ne 7, 3) := by decide +kernel
theorem d_Layers_has_22 : decode b_Layers_has 22 = .ok (.iconst 1, 1) := by decide +kernel
theorem d_Layers_has_23 : decode b_Layers_has 23 = .ok (.goto 4, 3) := by decide +kernel
theorem d_Layers_has_26 : decode b_Layers_has 26 = .ok (.iconst 0, 1) := by decide +kernel
theorem d_Layers_has_27 : decode b_Layers_has 27 = .ok (.ireturn, 1) := by decide +kernel
abbrev b_Layers_holdsPlace : ByteArray := prog_3_method_7_code
def y_Layers_holdsPlace : MethodName := ⟨"MaskLayers$Layers", "holdsPlace", "(II)Z"⟩
theorem d_Layers_holdsPlace_0 : decode b_Layers_holdsPlace 0 = .ok (.iload_n 1, 1) := by decide +kernel
theorem d_Layers_holdsPlace_1 : decode b_Layers_holdsPlace 1 = .ok (.ifCond .lt 31, 3) := by decide +kernel
theorem d_Layers_holdsPlace_4 : decode b_Layers_holdsPlace 4 = .ok (.iload_n 1, 1) := by decide +kernel
theorem d_Layers_holdsPlace_5 : decode b_Layers_holdsPlace 5 = .ok (.aload_n 0, 1) := by decide +kernel
theorem d_Layers_holdsPlace_6 : decode b_Layers_holdsPlace 6 = .ok (.getfield 11, 3) := by decide +kernel
theorem d_Layers_holdsPlace_9 : decode b_Layers_holdsPlace 9 = .ok (.arraylength, 1) := by decide +kernel
theorem d_Layers_holdsPlace_10 : decode b_Layers_holdsPlace 10 = .ok (.if_icmp .ge 22, 3) := by decide +kernel
theorem d_Layers_holdsPlace_13 : decode b_Layers_holdsPlace 13 = .ok (.iload_n 2, 1) := by decide +kernel
theorem d_Layers_holdsPlace_14 : decode b_Layers_holdsPlace 14 = .ok (.ifCond .lt 18, 3) := by decide +kernel
theorem d_Layers_holdsPlace_17 : decode b_Layers_holdsPlace 17 = .ok (.iload_n 2, 1) := by decide +kernel
theorem d_Layers_holdsPlace_18 : decode b_Layers_holdsPlace 18 = .ok (.aload_n 0, 1) := by decide +kernel
theorem d_Layers_holdsPlace_19 : decode b_Layers_holdsPlace 19 = .ok (.getfield 11, 3) := by decide +kernel
theorem d_Layers_holdsPlace_22 : decode b_Layers_holdsPlace 22 = .ok (.iload_n 1, 1) := by decide +kernel
theorem d_Layers_holdsPlace_23 : decode b_Layers_holdsPlace 23 = .ok (.aaload, 1) := by decide +kernel
theorem d_Layers_holdsPlace_24 : decode b_Layers_holdsPlace 24 = .ok (.arraylength, 1) := by decide +kernel
theorem d_Layers_holdsPlace_25 : decode b_Layers_holdsPlace 25 = .ok (.if_icmp .ge 7, 3) := by decide +kernel
theorem d_Layers_holdsPlace_28 : decode b_Layers_holdsPlace 28 = .ok (.iconst 1, 1) := by decide +kernel
theorem d_Layers_holdsPlace_29 : decode b_Layers_holdsPlace 29 = .ok (.goto 4, 3) := by decide +kernel
theorem d_Layers_holdsPlace_32 : decode b_Layers_holdsPlace 32 = .ok (.iconst 0, 1) := by decide +kernel
theorem d_Layers_holdsPlace_33 : decode b_Layers_holdsPlace 33 = .ok (.ireturn, 1) := by decide +kernel
abbrev b_Layers_value : ByteArray := prog_3_method_8_code
def y_Layers_value : MethodName := ⟨"MaskLayers$Layers", "value", "(II)I"⟩
theorem d_Layers_value_0 : decode b_Layers_value 0 = .ok (.aload_n 0, 1) := by decide +kernel
theorem d_Layers_value_1 : decode b_Layers_value 1 = .ok (.iload_n 1, 1) := by decide +kernel
theorem d_Layers_value_2 : decode b_Layers_value 2 = .ok (.iload_n 2, 1) := by decide +kernel
theorem d_Layers_value_3 : decode b_Layers_value 3 = .ok (.invokevirtual 49, 3) := by decide +kernel
theorem d_Layers_value_6 : decode b_Layers_value 6 = .ok (.ifCond .eq 14, 3) := by decide +kernel
theorem d_Layers_value_9 : decode b_Layers_value 9 = .ok (.aload_n 0, 1) := by decide +kernel
theorem d_Layers_value_10 : decode b_Layers_value 10 = .ok (.getfield 11, 3) := by decide +kernel
theorem d_Layers_value_13 : decode b_Layers_value 13 = .ok (.iload_n 1, 1) := by decide +kernel
theorem d_Layers_value_14 : decode b_Layers_value 14 = .ok (.aaload, 1) := by decide +kernel
theorem d_Layers_value_15 : decode b_Layers_value 15 = .ok (.iload_n 2, 1) := by decide +kernel
theorem d_Layers_value_16 : decode b_Layers_value 16 = .ok (.iaload, 1) := by decide +kernel
theorem d_Layers_value_17 : decode b_Layers_value 17 = .ok (.goto 4, 3) := by decide +kernel
theorem d_Layers_value_20 : decode b_Layers_value 20 = .ok (.iconst (-1), 1) := by decide +kernel
theorem d_Layers_value_21 : decode b_Layers_value 21 = .ok (.ireturn, 1) := by decide +kernel
abbrev b_Layers_hasSample : ByteArray := prog_3_method_10_code
def y_Layers_hasSample : MethodName := ⟨"MaskLayers$Layers", "hasSample", "(II)Z"⟩
theorem d_Layers_hasSample_0 : decode b_Layers_hasSample 0 = .ok (.iload_n 1, 1) := by decide +kernel
theorem d_Layers_hasSample_1 : decode b_Layers_hasSample 1 = .ok (.ifCond .lt 27, 3) := by decide +kernel
theorem d_Layers_hasSample_4 : decode b_Layers_hasSample 4 = .ok (.iload_n 1, 1) := by decide +kernel
theorem d_Layers_hasSample_5 : decode b_Layers_hasSample 5 = .ok (.aload_n 0, 1) := by decide +kernel
theorem d_Layers_hasSample_6 : decode b_Layers_hasSample 6 = .ok (.getfield 30, 3) := by decide +kernel
theorem d_Layers_hasSample_9 : decode b_Layers_hasSample 9 = .ok (.if_icmp .ge 19, 3) := by decide +kernel
theorem d_Layers_hasSample_12 : decode b_Layers_hasSample 12 = .ok (.iload_n 2, 1) := by decide +kernel
theorem d_Layers_hasSample_13 : decode b_Layers_hasSample 13 = .ok (.ifCond .lt 15, 3) := by decide +kernel
theorem d_Layers_hasSample_16 : decode b_Layers_hasSample 16 = .ok (.iload_n 2, 1) := by decide +kernel
theorem d_Layers_hasSample_17 : decode b_Layers_hasSample 17 = .ok (.aload_n 0, 1) := by decide +kernel
theorem d_Layers_hasSample_18 : decode b_Layers_hasSample 18 = .ok (.getfield 33, 3) := by decide +kernel
theorem d_Layers_hasSample_21 : decode b_Layers_hasSample 21 = .ok (.if_icmp .ge 7, 3) := by decide +kernel
theorem d_Layers_hasSample_24 : decode b_Layers_hasSample 24 = .ok (.iconst 1, 1) := by decide +kernel
theorem d_Layers_hasSample_25 : decode b_Layers_hasSample 25 = .ok (.goto 4, 3) := by decide +kernel
theorem d_Layers_hasSample_28 : decode b_Layers_hasSample 28 = .ok (.iconst 0, 1) := by decide +kernel
theorem d_Layers_hasSample_29 : decode b_Layers_hasSample 29 = .ok (.ireturn, 1) := by decide +kernel
abbrev b_Layers_stripes : ByteArray := prog_3_method_11_code
def y_Layers_stripes : MethodName := ⟨"MaskLayers$Layers", "stripes", "()I"⟩
theorem d_Layers_stripes_0 : decode b_Layers_stripes 0 = .ok (.aload_n 0, 1) := by decide +kernel
theorem d_Layers_stripes_1 : decode b_Layers_stripes 1 = .ok (.getfield 33, 3) := by decide +kernel
theorem d_Layers_stripes_4 : decode b_Layers_stripes 4 = .ok (.aload_n 0, 1) := by decide +kernel
theorem d_Layers_stripes_5 : decode b_Layers_stripes 5 = .ok (.getfield 36, 3) := by decide +kernel
theorem d_Layers_stripes_8 : decode b_Layers_stripes 8 = .ok (.invokestatic 53, 3) := by decide +kernel
theorem d_Layers_stripes_11 : decode b_Layers_stripes 11 = .ok (.ireturn, 1) := by decide +kernel
abbrev b_Layers_stripeOf : ByteArray := prog_3_method_12_code
def y_Layers_stripeOf : MethodName := ⟨"MaskLayers$Layers", "stripeOf", "(I)I"⟩
theorem d_Layers_stripeOf_0 : decode b_Layers_stripeOf 0 = .ok (.aload_n 0, 1) := by decide +kernel
theorem d_Layers_stripeOf_1 : decode b_Layers_stripeOf 1 = .ok (.getfield 36, 3) := by decide +kernel
theorem d_Layers_stripeOf_4 : decode b_Layers_stripeOf 4 = .ok (.iconst 1, 1) := by decide +kernel
theorem d_Layers_stripeOf_5 : decode b_Layers_stripeOf 5 = .ok (.if_icmp .ge 7, 3) := by decide +kernel
theorem d_Layers_stripeOf_8 : decode b_Layers_stripeOf 8 = .ok (.iconst 0, 1) := by decide +kernel
theorem d_Layers_stripeOf_9 : decode b_Layers_stripeOf 9 = .ok (.goto 9, 3) := by decide +kernel
theorem d_Layers_stripeOf_12 : decode b_Layers_stripeOf 12 = .ok (.iload_n 1, 1) := by decide +kernel
theorem d_Layers_stripeOf_13 : decode b_Layers_stripeOf 13 = .ok (.aload_n 0, 1) := by decide +kernel
theorem d_Layers_stripeOf_14 : decode b_Layers_stripeOf 14 = .ok (.getfield 36, 3) := by decide +kernel
theorem d_Layers_stripeOf_17 : decode b_Layers_stripeOf 17 = .ok (.idiv, 1) := by decide +kernel
theorem d_Layers_stripeOf_18 : decode b_Layers_stripeOf 18 = .ok (.ireturn, 1) := by decide +kernel
abbrev b_Layers_topOf : ByteArray := prog_3_method_13_code
def y_Layers_topOf : MethodName := ⟨"MaskLayers$Layers", "topOf", "(I)I"⟩
theorem d_Layers_topOf_0 : decode b_Layers_topOf 0 = .ok (.iload_n 1, 1) := by decide +kernel
theorem d_Layers_topOf_1 : decode b_Layers_topOf 1 = .ok (.aload_n 0, 1) := by decide +kernel
theorem d_Layers_topOf_2 : decode b_Layers_topOf 2 = .ok (.getfield 36, 3) := by decide +kernel
theorem d_Layers_topOf_5 : decode b_Layers_topOf 5 = .ok (.imul, 1) := by decide +kernel
theorem d_Layers_topOf_6 : decode b_Layers_topOf 6 = .ok (.ireturn, 1) := by decide +kernel
abbrev b_Layers_bottomOf : ByteArray := prog_3_method_14_code
def y_Layers_bottomOf : MethodName := ⟨"MaskLayers$Layers", "bottomOf", "(I)I"⟩
theorem d_Layers_bottomOf_0 : decode b_Layers_bottomOf 0 = .ok (.iload_n 1, 1) := by decide +kernel
theorem d_Layers_bottomOf_1 : decode b_Layers_bottomOf 1 = .ok (.aload_n 0, 1) := by decide +kernel
theorem d_Layers_bottomOf_2 : decode b_Layers_bottomOf 2 = .ok (.getfield 36, 3) := by decide +kernel
theorem d_Layers_bottomOf_5 : decode b_Layers_bottomOf 5 = .ok (.imul, 1) := by decide +kernel
theorem d_Layers_bottomOf_6 : decode b_Layers_bottomOf 6 = .ok (.aload_n 0, 1) := by decide +kernel
theorem d_Layers_bottomOf_7 : decode b_Layers_bottomOf 7 = .ok (.getfield 36, 3) := by decide +kernel
theorem d_Layers_bottomOf_10 : decode b_Layers_bottomOf 10 = .ok (.iadd, 1) := by decide +kernel
theorem d_Layers_bottomOf_11 : decode b_Layers_bottomOf 11 = .ok (.aload_n 0, 1) := by decide +kernel
theorem d_Layers_bottomOf_12 : decode b_Layers_bottomOf 12 = .ok (.getfield 33, 3) := by decide +kernel
theorem d_Layers_bottomOf_15 : decode b_Layers_bottomOf 15 = .ok (.invokestatic 57, 3) := by decide +kernel
theorem d_Layers_bottomOf_18 : decode b_Layers_bottomOf 18 = .ok (.ireturn, 1) := by decide +kernel
abbrev b_Layers_scaleOf : ByteArray := prog_3_method_15_code
def y_Layers_scaleOf : MethodName := ⟨"MaskLayers$Layers", "scaleOf", "(I)I"⟩
theorem d_Layers_scaleOf_0 : decode b_Layers_scaleOf 0 = .ok (.iload_n 1, 1) := by decide +kernel
theorem d_Layers_scaleOf_1 : decode b_Layers_scaleOf 1 = .ok (.iconst 2, 1) := by decide +kernel
theorem d_Layers_scaleOf_2 : decode b_Layers_scaleOf 2 = .ok (.if_icmp .ne 10, 3) := by decide +kernel
theorem d_Layers_scaleOf_5 : decode b_Layers_scaleOf 5 = .ok (.aload_n 0, 1) := by decide +kernel
theorem d_Layers_scaleOf_6 : decode b_Layers_scaleOf 6 = .ok (.getfield 39, 3) := by decide +kernel
theorem d_Layers_scaleOf_9 : decode b_Layers_scaleOf 9 = .ok (.goto 15, 3) := by decide +kernel
theorem d_Layers_scaleOf_12 : decode b_Layers_scaleOf 12 = .ok (.iload_n 1, 1) := by decide +kernel
theorem d_Layers_scaleOf_13 : decode b_Layers_scaleOf 13 = .ok (.ifCond .ne 10, 3) := by decide +kernel
theorem d_Layers_scaleOf_16 : decode b_Layers_scaleOf 16 = .ok (.aload_n 0, 1) := by decide +kernel
theorem d_Layers_scaleOf_17 : decode b_Layers_scaleOf 17 = .ok (.getfield 42, 3) := by decide +kernel
theorem d_Layers_scaleOf_20 : decode b_Layers_scaleOf 20 = .ok (.goto 4, 3) := by decide +kernel
theorem d_Layers_scaleOf_23 : decode b_Layers_scaleOf 23 = .ok (.iconst 1, 1) := by decide +kernel
theorem d_Layers_scaleOf_24 : decode b_Layers_scaleOf 24 = .ok (.ireturn, 1) := by decide +kernel
abbrev b_Layers_columnsOf : ByteArray := prog_3_method_16_code
def y_Layers_columnsOf : MethodName := ⟨"MaskLayers$Layers", "columnsOf", "(I)I"⟩
theorem d_Layers_columnsOf_0 : decode b_Layers_columnsOf 0 = .ok (.aload_n 0, 1) := by decide +kernel
theorem d_Layers_columnsOf_1 : decode b_Layers_columnsOf 1 = .ok (.getfield 30, 3) := by decide +kernel
theorem d_Layers_columnsOf_4 : decode b_Layers_columnsOf 4 = .ok (.aload_n 0, 1) := by decide +kernel
theorem d_Layers_columnsOf_5 : decode b_Layers_columnsOf 5 = .ok (.iload_n 1, 1) := by decide +kernel
theorem d_Layers_columnsOf_6 : decode b_Layers_columnsOf 6 = .ok (.invokevirtual 62, 3) := by decide +kernel
theorem d_Layers_columnsOf_9 : decode b_Layers_columnsOf 9 = .ok (.invokestatic 53, 3) := by decide +kernel
theorem d_Layers_columnsOf_12 : decode b_Layers_columnsOf 12 = .ok (.ireturn, 1) := by decide +kernel
abbrev b_Layers_rowsOf : ByteArray := prog_3_method_17_code
def y_Layers_rowsOf : MethodName := ⟨"MaskLayers$Layers", "rowsOf", "(II)I"⟩
theorem d_Layers_rowsOf_0 : decode b_Layers_rowsOf 0 = .ok (.aload_n 0, 1) := by decide +kernel
theorem d_Layers_rowsOf_1 : decode b_Layers_rowsOf 1 = .ok (.iload_n 1, 1) := by decide +kernel
theorem d_Layers_rowsOf_2 : decode b_Layers_rowsOf 2 = .ok (.invokevirtual 66, 3) := by decide +kernel
theorem d_Layers_rowsOf_5 : decode b_Layers_rowsOf 5 = .ok (.aload_n 0, 1) := by decide +kernel
theorem d_Layers_rowsOf_6 : decode b_Layers_rowsOf 6 = .ok (.iload_n 1, 1) := by decide +kernel
theorem d_Layers_rowsOf_7 : decode b_Layers_rowsOf 7 = .ok (.invokevirtual 69, 3) := by decide +kernel
theorem d_Layers_rowsOf_10 : decode b_Layers_rowsOf 10 = .ok (.isub, 1) := by decide +kernel
theorem d_Layers_rowsOf_11 : decode b_Layers_rowsOf 11 = .ok (.aload_n 0, 1) := by decide +kernel
theorem d_Layers_rowsOf_12 : decode b_Layers_rowsOf 12 = .ok (.iload_n 2, 1) := by decide +kernel
theorem d_Layers_rowsOf_13 : decode b_Layers_rowsOf 13 = .ok (.invokevirtual 62, 3) := by decide +kernel
theorem d_Layers_rowsOf_16 : decode b_Layers_rowsOf 16 = .ok (.invokestatic 53, 3) := by decide +kernel
theorem d_Layers_rowsOf_19 : decode b_Layers_rowsOf 19 = .ok (.ireturn, 1) := by decide +kernel
abbrev b_Layers_startOf : ByteArray := prog_3_method_18_code
def y_Layers_startOf : MethodName := ⟨"MaskLayers$Layers", "startOf", "(I)I"⟩
theorem d_Layers_startOf_0 : decode b_Layers_startOf 0 = .ok (.iload_n 1, 1) := by decide +kernel
theorem d_Layers_startOf_1 : decode b_Layers_startOf 1 = .ok (.aload_n 0, 1) := by decide +kernel
theorem d_Layers_startOf_2 : decode b_Layers_startOf 2 = .ok (.getfield 36, 3) := by decide +kernel
theorem d_Layers_startOf_5 : decode b_Layers_startOf 5 = .ok (.imul, 1) := by decide +kernel
theorem d_Layers_startOf_6 : decode b_Layers_startOf 6 = .ok (.aload_n 0, 1) := by decide +kernel
theorem d_Layers_startOf_7 : decode b_Layers_startOf 7 = .ok (.getfield 30, 3) := by decide +kernel
theorem d_Layers_startOf_10 : decode b_Layers_startOf 10 = .ok (.imul, 1) := by decide +kernel
theorem d_Layers_startOf_11 : decode b_Layers_startOf 11 = .ok (.ireturn, 1) := by decide +kernel
abbrev b_Layers_endOf : ByteArray := prog_3_method_19_code
def y_Layers_endOf : MethodName := ⟨"MaskLayers$Layers", "endOf", "(II)I"⟩
theorem d_Layers_endOf_0 : decode b_Layers_endOf 0 = .ok (.aload_n 0, 1) := by decide +kernel
theorem d_Layers_endOf_1 : decode b_Layers_endOf 1 = .ok (.iload_n 1, 1) := by decide +kernel
theorem d_Layers_endOf_2 : decode b_Layers_endOf 2 = .ok (.invokevirtual 72, 3) := by decide +kernel
theorem d_Layers_endOf_5 : decode b_Layers_endOf 5 = .ok (.aload_n 0, 1) := by decide +kernel
theorem d_Layers_endOf_6 : decode b_Layers_endOf 6 = .ok (.iload_n 2, 1) := by decide +kernel
theorem d_Layers_endOf_7 : decode b_Layers_endOf 7 = .ok (.invokevirtual 75, 3) := by decide +kernel
theorem d_Layers_endOf_10 : decode b_Layers_endOf 10 = .ok (.aload_n 0, 1) := by decide +kernel
theorem d_Layers_endOf_11 : decode b_Layers_endOf 11 = .ok (.iload_n 1, 1) := by decide +kernel
theorem d_Layers_endOf_12 : decode b_Layers_endOf 12 = .ok (.iload_n 2, 1) := by decide +kernel
theorem d_Layers_endOf_13 : decode b_Layers_endOf 13 = .ok (.invokevirtual 78, 3) := by decide +kernel
theorem d_Layers_endOf_16 : decode b_Layers_endOf 16 = .ok (.imul, 1) := by decide +kernel
theorem d_Layers_endOf_17 : decode b_Layers_endOf 17 = .ok (.iadd, 1) := by decide +kernel
theorem d_Layers_endOf_18 : decode b_Layers_endOf 18 = .ok (.ireturn, 1) := by decide +kernel
abbrev b_Layers_placeOf : ByteArray := prog_3_method_20_code
def y_Layers_placeOf : MethodName := ⟨"MaskLayers$Layers", "placeOf", "(III)I"⟩
theorem d_Layers_placeOf_0 : decode b_Layers_placeOf 0 = .ok (.aload_n 0, 1) := by decide +kernel
theorem d_Layers_placeOf_1 : decode b_Layers_placeOf 1 = .ok (.iload_n 1, 1) := by decide +kernel
theorem d_Layers_placeOf_2 : decode b_Layers_placeOf 2 = .ok (.invokevirtual 62, 3) := by decide +kernel
theorem d_Layers_placeOf_5 : decode b_Layers_placeOf 5 = .ok (.istore 4, 2) := by decide +kernel
theorem d_Layers_placeOf_7 : decode b_Layers_placeOf 7 = .ok (.iload 4, 2) := by decide +kernel
theorem d_Layers_placeOf_9 : decode b_Layers_placeOf 9 = .ok (.iconst 1, 1) := by decide +kernel
theorem d_Layers_placeOf_10 : decode b_Layers_placeOf 10 = .ok (.if_icmp .ge 5, 3) := by decide +kernel
theorem d_Layers_placeOf_13 : decode b_Layers_placeOf 13 = .ok (.iconst (-1), 1) := by decide +kernel
theorem d_Layers_placeOf_14 : decode b_Layers_placeOf 14 = .ok (.ireturn, 1) := by decide +kernel
theorem d_Layers_placeOf_15 : decode b_Layers_placeOf 15 = .ok (.aload_n 0, 1) := by decide +kernel
theorem d_Layers_placeOf_16 : decode b_Layers_placeOf 16 = .ok (.aload_n 0, 1) := by decide +kernel
theorem d_Layers_placeOf_17 : decode b_Layers_placeOf 17 = .ok (.iload_n 3, 1) := by decide +kernel
theorem d_Layers_placeOf_18 : decode b_Layers_placeOf 18 = .ok (.invokevirtual 81, 3) := by decide +kernel
theorem d_Layers_placeOf_21 : decode b_Layers_placeOf 21 = .ok (.invokevirtual 69, 3) := by decide +kernel
theorem d_Layers_placeOf_24 : decode b_Layers_placeOf 24 = .ok (.istore 5, 2) := by decide +kernel
theorem d_Layers_placeOf_26 : decode b_Layers_placeOf 26 = .ok (.iload 5, 2) := by decide +kernel
theorem d_Layers_placeOf_28 : decode b_Layers_placeOf 28 = .ok (.aload_n 0, 1) := by decide +kernel
theorem d_Layers_placeOf_29 : decode b_Layers_placeOf 29 = .ok (.getfield 30, 3) := by decide +kernel
theorem d_Layers_placeOf_32 : decode b_Layers_placeOf 32 = .ok (.imul, 1) := by decide +kernel
theorem d_Layers_placeOf_33 : decode b_Layers_placeOf 33 = .ok (.iload_n 3, 1) := by decide +kernel
theorem d_Layers_placeOf_34 : decode b_Layers_placeOf 34 = .ok (.iload 5, 2) := by decide +kernel
theorem d_Layers_placeOf_36 : decode b_Layers_placeOf 36 = .ok (.isub, 1) := by decide +kernel
theorem d_Layers_placeOf_37 : decode b_Layers_placeOf 37 = .ok (.iload 4, 2) := by decide +kernel
theorem d_Layers_placeOf_39 : decode b_Layers_placeOf 39 = .ok (.idiv, 1) := by decide +kernel
theorem d_Layers_placeOf_40 : decode b_Layers_placeOf 40 = .ok (.aload_n 0, 1) := by decide +kernel
theorem d_Layers_placeOf_41 : decode b_Layers_placeOf 41 = .ok (.iload_n 1, 1) := by decide +kernel
theorem d_Layers_placeOf_42 : decode b_Layers_placeOf 42 = .ok (.invokevirtual 75, 3) := by decide +kernel
theorem d_Layers_placeOf_45 : decode b_Layers_placeOf 45 = .ok (.imul, 1) := by decide +kernel
theorem d_Layers_placeOf_46 : decode b_Layers_placeOf 46 = .ok (.iadd, 1) := by decide +kernel
theorem d_Layers_placeOf_47 : decode b_Layers_placeOf 47 = .ok (.iload_n 2, 1) := by decide +kernel
theorem d_Layers_placeOf_48 : decode b_Layers_placeOf 48 = .ok (.iload 4, 2) := by decide +kernel
theorem d_Layers_placeOf_50 : decode b_Layers_placeOf 50 = .ok (.idiv, 1) := by decide +kernel
theorem d_Layers_placeOf_51 : decode b_Layers_placeOf 51 = .ok (.iadd, 1) := by decide +kernel
theorem d_Layers_placeOf_52 : decode b_Layers_placeOf 52 = .ok (.ireturn, 1) := by decide +kernel
abbrev b_Layers_valueAt : ByteArray := prog_3_method_21_code
def y_Layers_valueAt : MethodName := ⟨"MaskLayers$Layers", "valueAt", "(III)I"⟩
theorem d_Layers_valueAt_0 : decode b_Layers_valueAt 0 = .ok (.aload_n 0, 1) := by decide +kernel
theorem d_Layers_valueAt_1 : decode b_Layers_valueAt 1 = .ok (.aload_n 0, 1) := by decide +kernel
theorem d_Layers_valueAt_2 : decode b_Layers_valueAt 2 = .ok (.iload_n 3, 1) := by decide +kernel
theorem d_Layers_valueAt_3 : decode b_Layers_valueAt 3 = .ok (.invokevirtual 81, 3) := by decide +kernel
theorem d_Layers_valueAt_6 : decode b_Layers_valueAt 6 = .ok (.iload_n 1, 1) := by decide +kernel
theorem d_Layers_valueAt_7 : decode b_Layers_valueAt 7 = .ok (.invokevirtual 84, 3) := by decide +kernel
theorem d_Layers_valueAt_10 : decode b_Layers_valueAt 10 = .ok (.ifCond .eq 18, 3) := by decide +kernel
theorem d_Layers_valueAt_13 : decode b_Layers_valueAt 13 = .ok (.aload_n 0, 1) := by decide +kernel
theorem d_Layers_valueAt_14 : decode b_Layers_valueAt 14 = .ok (.iload_n 1, 1) := by decide +kernel
theorem d_Layers_valueAt_15 : decode b_Layers_valueAt 15 = .ok (.aload_n 0, 1) := by decide +kernel
