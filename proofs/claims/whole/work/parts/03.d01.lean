theorem d_Arrays_fill_14 : decode b_Arrays_fill 14 = .ok (.iinc 2 1, 3) := by decide +kernel
theorem d_Arrays_fill_17 : decode b_Arrays_fill 17 = .ok (.goto (-12), 3) := by decide +kernel
theorem d_Arrays_fill_20 : decode b_Arrays_fill 20 = .ok (.return_, 1) := by decide +kernel
abbrev b_Layers_forget : ByteArray := prog_3_method_2_code
def y_Layers_forget : MethodName := ⟨"MaskLayers$Layers", "forget", "()V"⟩
theorem d_Layers_forget_0 : decode b_Layers_forget 0 = .ok (.aload_n 0, 1) := by decide +kernel
theorem d_Layers_forget_1 : decode b_Layers_forget 1 = .ok (.getfield 16, 3) := by decide +kernel
theorem d_Layers_forget_4 : decode b_Layers_forget 4 = .ok (.iconst 0, 1) := by decide +kernel
theorem d_Layers_forget_5 : decode b_Layers_forget 5 = .ok (.invokestatic 30, 3) := by decide +kernel
theorem d_Layers_forget_8 : decode b_Layers_forget 8 = .ok (.aload_n 0, 1) := by decide +kernel
theorem d_Layers_forget_9 : decode b_Layers_forget 9 = .ok (.iconst 0, 1) := by decide +kernel
theorem d_Layers_forget_10 : decode b_Layers_forget 10 = .ok (.putfield 36, 3) := by decide +kernel
theorem d_Layers_forget_13 : decode b_Layers_forget 13 = .ok (.return_, 1) := by decide +kernel
abbrev b_Layers_shape : ByteArray := prog_3_method_3_code
def y_Layers_shape : MethodName := ⟨"MaskLayers$Layers", "shape", "(IIIII)V"⟩
theorem d_Layers_shape_0 : decode b_Layers_shape 0 = .ok (.aload_n 0, 1) := by decide +kernel
theorem d_Layers_shape_1 : decode b_Layers_shape 1 = .ok (.iload_n 1, 1) := by decide +kernel
theorem d_Layers_shape_2 : decode b_Layers_shape 2 = .ok (.putfield 39, 3) := by decide +kernel
theorem d_Layers_shape_5 : decode b_Layers_shape 5 = .ok (.aload_n 0, 1) := by decide +kernel
theorem d_Layers_shape_6 : decode b_Layers_shape 6 = .ok (.iload_n 2, 1) := by decide +kernel
theorem d_Layers_shape_7 : decode b_Layers_shape 7 = .ok (.putfield 42, 3) := by decide +kernel
theorem d_Layers_shape_10 : decode b_Layers_shape 10 = .ok (.aload_n 0, 1) := by decide +kernel
theorem d_Layers_shape_11 : decode b_Layers_shape 11 = .ok (.iload_n 3, 1) := by decide +kernel
theorem d_Layers_shape_12 : decode b_Layers_shape 12 = .ok (.putfield 26, 3) := by decide +kernel
theorem d_Layers_shape_15 : decode b_Layers_shape 15 = .ok (.aload_n 0, 1) := by decide +kernel
theorem d_Layers_shape_16 : decode b_Layers_shape 16 = .ok (.getfield 20, 3) := by decide +kernel
theorem d_Layers_shape_19 : decode b_Layers_shape 19 = .ok (.iconst 2, 1) := by decide +kernel
theorem d_Layers_shape_20 : decode b_Layers_shape 20 = .ok (.iload 4, 2) := by decide +kernel
theorem d_Layers_shape_22 : decode b_Layers_shape 22 = .ok (.iastore, 1) := by decide +kernel
theorem d_Layers_shape_23 : decode b_Layers_shape 23 = .ok (.aload_n 0, 1) := by decide +kernel
theorem d_Layers_shape_24 : decode b_Layers_shape 24 = .ok (.getfield 20, 3) := by decide +kernel
theorem d_Layers_shape_27 : decode b_Layers_shape 27 = .ok (.iconst 0, 1) := by decide +kernel
theorem d_Layers_shape_28 : decode b_Layers_shape 28 = .ok (.iload 5, 2) := by decide +kernel
theorem d_Layers_shape_30 : decode b_Layers_shape 30 = .ok (.iastore, 1) := by decide +kernel
theorem d_Layers_shape_31 : decode b_Layers_shape 31 = .ok (.iconst 0, 1) := by decide +kernel
theorem d_Layers_shape_32 : decode b_Layers_shape 32 = .ok (.istore 6, 2) := by decide +kernel
theorem d_Layers_shape_34 : decode b_Layers_shape 34 = .ok (.iload 6, 2) := by decide +kernel
theorem d_Layers_shape_36 : decode b_Layers_shape 36 = .ok (.iconst 3, 1) := by decide +kernel
theorem d_Layers_shape_37 : decode b_Layers_shape 37 = .ok (.if_icmp .gt 27, 3) := by decide +kernel
theorem d_Layers_shape_40 : decode b_Layers_shape 40 = .ok (.aload_n 0, 1) := by decide +kernel
theorem d_Layers_shape_41 : decode b_Layers_shape 41 = .ok (.getfield 23, 3) := by decide +kernel
theorem d_Layers_shape_44 : decode b_Layers_shape 44 = .ok (.iload 6, 2) := by decide +kernel
theorem d_Layers_shape_46 : decode b_Layers_shape 46 = .ok (.iload_n 1, 1) := by decide +kernel
theorem d_Layers_shape_47 : decode b_Layers_shape 47 = .ok (.aload_n 0, 1) := by decide +kernel
theorem d_Layers_shape_48 : decode b_Layers_shape 48 = .ok (.getfield 20, 3) := by decide +kernel
theorem d_Layers_shape_51 : decode b_Layers_shape 51 = .ok (.iload 6, 2) := by decide +kernel
theorem d_Layers_shape_53 : decode b_Layers_shape 53 = .ok (.iaload, 1) := by decide +kernel
theorem d_Layers_shape_54 : decode b_Layers_shape 54 = .ok (.invokestatic 45, 3) := by decide +kernel
theorem d_Layers_shape_57 : decode b_Layers_shape 57 = .ok (.iastore, 1) := by decide +kernel
theorem d_Layers_shape_58 : decode b_Layers_shape 58 = .ok (.iinc 6 1, 3) := by decide +kernel
theorem d_Layers_shape_61 : decode b_Layers_shape 61 = .ok (.goto (-27), 3) := by decide +kernel
theorem d_Layers_shape_64 : decode b_Layers_shape 64 = .ok (.return_, 1) := by decide +kernel
abbrev b_Layers_add : ByteArray := prog_3_method_4_code
def y_Layers_add : MethodName := ⟨"MaskLayers$Layers", "add", "(II)V"⟩
theorem d_Layers_add_0 : decode b_Layers_add 0 = .ok (.aload_n 0, 1) := by decide +kernel
theorem d_Layers_add_1 : decode b_Layers_add 1 = .ok (.getfield 16, 3) := by decide +kernel
theorem d_Layers_add_4 : decode b_Layers_add 4 = .ok (.iload_n 1, 1) := by decide +kernel
theorem d_Layers_add_5 : decode b_Layers_add 5 = .ok (.dup2, 1) := by decide +kernel
theorem d_Layers_add_6 : decode b_Layers_add 6 = .ok (.iaload, 1) := by decide +kernel
theorem d_Layers_add_7 : decode b_Layers_add 7 = .ok (.iconst 1, 1) := by decide +kernel
theorem d_Layers_add_8 : decode b_Layers_add 8 = .ok (.iload_n 2, 1) := by decide +kernel
theorem d_Layers_add_9 : decode b_Layers_add 9 = .ok (.ishl, 1) := by decide +kernel
theorem d_Layers_add_10 : decode b_Layers_add 10 = .ok (.ior, 1) := by decide +kernel
theorem d_Layers_add_11 : decode b_Layers_add 11 = .ok (.iastore, 1) := by decide +kernel
theorem d_Layers_add_12 : decode b_Layers_add 12 = .ok (.aload_n 0, 1) := by decide +kernel
theorem d_Layers_add_13 : decode b_Layers_add 13 = .ok (.dup, 1) := by decide +kernel
theorem d_Layers_add_14 : decode b_Layers_add 14 = .ok (.getfield 36, 3) := by decide +kernel
theorem d_Layers_add_17 : decode b_Layers_add 17 = .ok (.iconst 1, 1) := by decide +kernel
theorem d_Layers_add_18 : decode b_Layers_add 18 = .ok (.iadd, 1) := by decide +kernel
theorem d_Layers_add_19 : decode b_Layers_add 19 = .ok (.putfield 36, 3) := by decide +kernel
theorem d_Layers_add_22 : decode b_Layers_add 22 = .ok (.return_, 1) := by decide +kernel
abbrev b_ByteRow_empty : ByteArray := prog_2_method_2_code
def y_ByteRow_empty : MethodName := ⟨"MaskLayers$ByteRow", "empty", "()V"⟩
theorem d_ByteRow_empty_0 : decode b_ByteRow_empty 0 = .ok (.aload_n 0, 1) := by decide +kernel
theorem d_ByteRow_empty_1 : decode b_ByteRow_empty 1 = .ok (.iconst 0, 1) := by decide +kernel
theorem d_ByteRow_empty_2 : decode b_ByteRow_empty 2 = .ok (.putfield 15, 3) := by decide +kernel
theorem d_ByteRow_empty_5 : decode b_ByteRow_empty 5 = .ok (.return_, 1) := by decide +kernel
abbrev b_ByteRow_room : ByteArray := prog_2_method_3_code
def y_ByteRow_room : MethodName := ⟨"MaskLayers$ByteRow", "room", "()I"⟩
theorem d_ByteRow_room_0 : decode b_ByteRow_room 0 = .ok (.sipush 6400, 3) := by decide +kernel
theorem d_ByteRow_room_3 : decode b_ByteRow_room 3 = .ok (.aload_n 0, 1) := by decide +kernel
theorem d_ByteRow_room_4 : decode b_ByteRow_room 4 = .ok (.getfield 15, 3) := by decide +kernel
theorem d_ByteRow_room_7 : decode b_ByteRow_room 7 = .ok (.isub, 1) := by decide +kernel
theorem d_ByteRow_room_8 : decode b_ByteRow_room 8 = .ok (.ireturn, 1) := by decide +kernel
abbrev b_ByteRow_holds : ByteArray := prog_2_method_4_code
def y_ByteRow_holds : MethodName := ⟨"MaskLayers$ByteRow", "holds", "(I)Z"⟩
theorem d_ByteRow_holds_0 : decode b_ByteRow_holds 0 = .ok (.iload_n 1, 1) := by decide +kernel
theorem d_ByteRow_holds_1 : decode b_ByteRow_holds 1 = .ok (.ifCond .lt 15, 3) := by decide +kernel
theorem d_ByteRow_holds_4 : decode b_ByteRow_holds 4 = .ok (.iload_n 1, 1) := by decide +kernel
theorem d_ByteRow_holds_5 : decode b_ByteRow_holds 5 = .ok (.aload_n 0, 1) := by decide +kernel
theorem d_ByteRow_holds_6 : decode b_ByteRow_holds 6 = .ok (.getfield 15, 3) := by decide +kernel
theorem d_ByteRow_holds_9 : decode b_ByteRow_holds 9 = .ok (.if_icmp .ge 7, 3) := by decide +kernel
theorem d_ByteRow_holds_12 : decode b_ByteRow_holds 12 = .ok (.iconst 1, 1) := by decide +kernel
theorem d_ByteRow_holds_13 : decode b_ByteRow_holds 13 = .ok (.goto 4, 3) := by decide +kernel
theorem d_ByteRow_holds_16 : decode b_ByteRow_holds 16 = .ok (.iconst 0, 1) := by decide +kernel
theorem d_ByteRow_holds_17 : decode b_ByteRow_holds 17 = .ok (.ireturn, 1) := by decide +kernel
abbrev b_ByteRow_valueAt : ByteArray := prog_2_method_5_code
def y_ByteRow_valueAt : MethodName := ⟨"MaskLayers$ByteRow", "valueAt", "(I)I"⟩
theorem d_ByteRow_valueAt_0 : decode b_ByteRow_valueAt 0 = .ok (.aload_n 0, 1) := by decide +kernel
theorem d_ByteRow_valueAt_1 : decode b_ByteRow_valueAt 1 = .ok (.iload_n 1, 1) := by decide +kernel
theorem d_ByteRow_valueAt_2 : decode b_ByteRow_valueAt 2 = .ok (.invokevirtual 19, 3) := by decide +kernel
theorem d_ByteRow_valueAt_5 : decode b_ByteRow_valueAt 5 = .ok (.ifCond .eq 12, 3) := by decide +kernel
theorem d_ByteRow_valueAt_8 : decode b_ByteRow_valueAt 8 = .ok (.aload_n 0, 1) := by decide +kernel
theorem d_ByteRow_valueAt_9 : decode b_ByteRow_valueAt 9 = .ok (.getfield 9, 3) := by decide +kernel
theorem d_ByteRow_valueAt_12 : decode b_ByteRow_valueAt 12 = .ok (.iload_n 1, 1) := by decide +kernel
theorem d_ByteRow_valueAt_13 : decode b_ByteRow_valueAt 13 = .ok (.iaload, 1) := by decide +kernel
theorem d_ByteRow_valueAt_14 : decode b_ByteRow_valueAt 14 = .ok (.goto 4, 3) := by decide +kernel
theorem d_ByteRow_valueAt_17 : decode b_ByteRow_valueAt 17 = .ok (.iconst (-1), 1) := by decide +kernel
theorem d_ByteRow_valueAt_18 : decode b_ByteRow_valueAt 18 = .ok (.ireturn, 1) := by decide +kernel
abbrev b_ByteRow_replace : ByteArray := prog_2_method_7_code
def y_ByteRow_replace : MethodName := ⟨"MaskLayers$ByteRow", "replace", "(II)I"⟩
theorem d_ByteRow_replace_0 : decode b_ByteRow_replace 0 = .ok (.aload_n 0, 1) := by decide +kernel
theorem d_ByteRow_replace_1 : decode b_ByteRow_replace 1 = .ok (.iload_n 1, 1) := by decide +kernel
theorem d_ByteRow_replace_2 : decode b_ByteRow_replace 2 = .ok (.invokevirtual 39, 3) := by decide +kernel
theorem d_ByteRow_replace_5 : decode b_ByteRow_replace 5 = .ok (.istore_n 3, 1) := by decide +kernel
theorem d_ByteRow_replace_6 : decode b_ByteRow_replace 6 = .ok (.aload_n 0, 1) := by decide +kernel
theorem d_ByteRow_replace_7 : decode b_ByteRow_replace 7 = .ok (.iload_n 1, 1) := by decide +kernel
theorem d_ByteRow_replace_8 : decode b_ByteRow_replace 8 = .ok (.invokevirtual 19, 3) := by decide +kernel
theorem d_ByteRow_replace_11 : decode b_ByteRow_replace 11 = .ok (.ifCond .eq 10, 3) := by decide +kernel
theorem d_ByteRow_replace_14 : decode b_ByteRow_replace 14 = .ok (.aload_n 0, 1) := by decide +kernel
theorem d_ByteRow_replace_15 : decode b_ByteRow_replace 15 = .ok (.getfield 9, 3) := by decide +kernel
theorem d_ByteRow_replace_18 : decode b_ByteRow_replace 18 = .ok (.iload_n 1, 1) := by decide +kernel
theorem d_ByteRow_replace_19 : decode b_ByteRow_replace 19 = .ok (.iload_n 2, 1) := by decide +kernel
theorem d_ByteRow_replace_20 : decode b_ByteRow_replace 20 = .ok (.iastore, 1) := by decide +kernel
theorem d_ByteRow_replace_21 : decode b_ByteRow_replace 21 = .ok (.iload_n 3, 1) := by decide +kernel
theorem d_ByteRow_replace_22 : decode b_ByteRow_replace 22 = .ok (.ireturn, 1) := by decide +kernel
abbrev b_Maker_fillBetween : ByteArray := prog_4_method_9_code
def y_Maker_fillBetween : MethodName := ⟨"MaskLayers$Maker", "fillBetween", "(III)I"⟩
theorem d_Maker_fillBetween_0 : decode b_Maker_fillBetween 0 = .ok (.iload_n 0, 1) := by decide +kernel
theorem d_Maker_fillBetween_1 : decode b_Maker_fillBetween 1 = .ok (.iconst (-1), 1) := by decide +kernel
theorem d_Maker_fillBetween_2 : decode b_Maker_fillBetween 2 = .ok (.if_icmp .ne 10, 3) := by decide +kernel
theorem d_Maker_fillBetween_5 : decode b_Maker_fillBetween 5 = .ok (.iload_n 1, 1) := by decide +kernel
theorem d_Maker_fillBetween_6 : decode b_Maker_fillBetween 6 = .ok (.iconst (-1), 1) := by decide +kernel
theorem d_Maker_fillBetween_7 : decode b_Maker_fillBetween 7 = .ok (.if_icmp .ne 5, 3) := by decide +kernel
theorem d_Maker_fillBetween_10 : decode b_Maker_fillBetween 10 = .ok (.iload_n 2, 1) := by decide +kernel
theorem d_Maker_fillBetween_11 : decode b_Maker_fillBetween 11 = .ok (.ireturn, 1) := by decide +kernel
theorem d_Maker_fillBetween_12 : decode b_Maker_fillBetween 12 = .ok (.iload_n 0, 1) := by decide +kernel
theorem d_Maker_fillBetween_13 : decode b_Maker_fillBetween 13 = .ok (.iconst (-1), 1) := by decide +kernel
theorem d_Maker_fillBetween_14 : decode b_Maker_fillBetween 14 = .ok (.if_icmp .ne 5, 3) := by decide +kernel
theorem d_Maker_fillBetween_17 : decode b_Maker_fillBetween 17 = .ok (.iload_n 1, 1) := by decide +kernel
theorem d_Maker_fillBetween_18 : decode b_Maker_fillBetween 18 = .ok (.ireturn, 1) := by decide +kernel
theorem d_Maker_fillBetween_19 : decode b_Maker_fillBetween 19 = .ok (.iload_n 1, 1) := by decide +kernel
theorem d_Maker_fillBetween_20 : decode b_Maker_fillBetween 20 = .ok (.iconst (-1), 1) := by decide +kernel
theorem d_Maker_fillBetween_21 : decode b_Maker_fillBetween 21 = .ok (.if_icmp .ne 7, 3) := by decide +kernel
theorem d_Maker_fillBetween_24 : decode b_Maker_fillBetween 24 = .ok (.iload_n 0, 1) := by decide +kernel
theorem d_Maker_fillBetween_25 : decode b_Maker_fillBetween 25 = .ok (.goto 8, 3) := by decide +kernel
theorem d_Maker_fillBetween_28 : decode b_Maker_fillBetween 28 = .ok (.iload_n 0, 1) := by decide +kernel
theorem d_Maker_fillBetween_29 : decode b_Maker_fillBetween 29 = .ok (.iload_n 1, 1) := by decide +kernel
theorem d_Maker_fillBetween_30 : decode b_Maker_fillBetween 30 = .ok (.invokestatic 134, 3) := by decide +kernel
theorem d_Maker_fillBetween_33 : decode b_Maker_fillBetween 33 = .ok (.ireturn, 1) := by decide +kernel
abbrev b_Maker_wasFilled : ByteArray := prog_4_method_3_code
def y_Maker_wasFilled : MethodName := ⟨"MaskLayers$Maker", "wasFilled", "(III)Z"⟩
theorem d_Maker_wasFilled_0 : decode b_Maker_wasFilled 0 = .ok (.aload_n 0, 1) := by decide +kernel
theorem d_Maker_wasFilled_1 : decode b_Maker_wasFilled 1 = .ok (.getfield 9, 3) := by decide +kernel
theorem d_Maker_wasFilled_4 : decode b_Maker_wasFilled 4 = .ok (.aload_n 0, 1) := by decide +kernel
theorem d_Maker_wasFilled_5 : decode b_Maker_wasFilled 5 = .ok (.getfield 9, 3) := by decide +kernel
theorem d_Maker_wasFilled_8 : decode b_Maker_wasFilled 8 = .ok (.iload_n 3, 1) := by decide +kernel
theorem d_Maker_wasFilled_9 : decode b_Maker_wasFilled 9 = .ok (.invokevirtual 48, 3) := by decide +kernel
theorem d_Maker_wasFilled_12 : decode b_Maker_wasFilled 12 = .ok (.iload_n 1, 1) := by decide +kernel
theorem d_Maker_wasFilled_13 : decode b_Maker_wasFilled 13 = .ok (.invokevirtual 52, 3) := by decide +kernel
theorem d_Maker_wasFilled_16 : decode b_Maker_wasFilled 16 = .ok (.ifCond .eq 30, 3) := by decide +kernel
theorem d_Maker_wasFilled_19 : decode b_Maker_wasFilled 19 = .ok (.aload_n 0, 1) := by decide +kernel
theorem d_Maker_wasFilled_20 : decode b_Maker_wasFilled 20 = .ok (.getfield 22, 3) := by decide +kernel
theorem d_Maker_wasFilled_23 : decode b_Maker_wasFilled 23 = .ok (.aload_n 0, 1) := by decide +kernel
theorem d_Maker_wasFilled_24 : decode b_Maker_wasFilled 24 = .ok (.getfield 9, 3) := by decide +kernel
theorem d_Maker_wasFilled_27 : decode b_Maker_wasFilled 27 = .ok (.iload_n 1, 1) := by decide +kernel
theorem d_Maker_wasFilled_28 : decode b_Maker_wasFilled 28 = .ok (.iload_n 2, 1) := by decide +kernel
theorem d_Maker_wasFilled_29 : decode b_Maker_wasFilled 29 = .ok (.iload_n 3, 1) := by decide +kernel
theorem d_Maker_wasFilled_30 : decode b_Maker_wasFilled 30 = .ok (.invokevirtual 56, 3) := by decide +kernel
theorem d_Maker_wasFilled_33 : decode b_Maker_wasFilled 33 = .ok (.iaload, 1) := by decide +kernel
theorem d_Maker_wasFilled_34 : decode b_Maker_wasFilled 34 = .ok (.iload_n 1, 1) := by decide +kernel
theorem d_Maker_wasFilled_35 : decode b_Maker_wasFilled 35 = .ok (.ishr, 1) := by decide +kernel
theorem d_Maker_wasFilled_36 : decode b_Maker_wasFilled 36 = .ok (.iconst 1, 1) := by decide +kernel
theorem d_Maker_wasFilled_37 : decode b_Maker_wasFilled 37 = .ok (.iand, 1) := by decide +kernel
theorem d_Maker_wasFilled_38 : decode b_Maker_wasFilled 38 = .ok (.iconst 1, 1) := by decide +kernel
theorem d_Maker_wasFilled_39 : decode b_Maker_wasFilled 39 = .ok (.if_icmp .ne 7, 3) := by decide +kernel
theorem d_Maker_wasFilled_42 : decode b_Maker_wasFilled 42 = .ok (.iconst 1, 1) := by decide +kernel
theorem d_Maker_wasFilled_43 : decode b_Maker_wasFilled 43 = .ok (.goto 4, 3) := by decide +kernel
theorem d_Maker_wasFilled_46 : decode b_Maker_wasFilled 46 = .ok (.iconst 0, 1) := by decide +kernel
theorem d_Maker_wasFilled_47 : decode b_Maker_wasFilled 47 = .ok (.ireturn, 1) := by decide +kernel
abbrev b_Maker_meanOfBlock : ByteArray := prog_4_method_7_code
def y_Maker_meanOfBlock : MethodName := ⟨"MaskLayers$Maker", "meanOfBlock", "(IIII)I"⟩
theorem d_Maker_meanOfBlock_0 : decode b_Maker_meanOfBlock 0 = .ok (.aload_n 0, 1) := by decide +kernel
theorem d_Maker_meanOfBlock_1 : decode b_Maker_meanOfBlock 1 = .ok (.getfield 9, 3) := by decide +kernel
theorem d_Maker_meanOfBlock_4 : decode b_Maker_meanOfBlock 4 = .ok (.getfield 99, 3) := by decide +kernel
theorem d_Maker_meanOfBlock_7 : decode b_Maker_meanOfBlock 7 = .ok (.iload_n 2, 1) := by decide +kernel
theorem d_Maker_meanOfBlock_8 : decode b_Maker_meanOfBlock 8 = .ok (.iaload, 1) := by decide +kernel
theorem d_Maker_meanOfBlock_9 : decode b_Maker_meanOfBlock 9 = .ok (.istore 5, 2) := by decide +kernel
theorem d_Maker_meanOfBlock_11 : decode b_Maker_meanOfBlock 11 = .ok (.aload_n 0, 1) := by decide +kernel
theorem d_Maker_meanOfBlock_12 : decode b_Maker_meanOfBlock 12 = .ok (.getfield 9, 3) := by decide +kernel
theorem d_Maker_meanOfBlock_15 : decode b_Maker_meanOfBlock 15 = .ok (.iload_n 1, 1) := by decide +kernel
theorem d_Maker_meanOfBlock_16 : decode b_Maker_meanOfBlock 16 = .ok (.invokevirtual 102, 3) := by decide +kernel
theorem d_Maker_meanOfBlock_19 : decode b_Maker_meanOfBlock 19 = .ok (.iload 4, 2) := by decide +kernel
theorem d_Maker_meanOfBlock_21 : decode b_Maker_meanOfBlock 21 = .ok (.iload 5, 2) := by decide +kernel
theorem d_Maker_meanOfBlock_23 : decode b_Maker_meanOfBlock 23 = .ok (.imul, 1) := by decide +kernel
theorem d_Maker_meanOfBlock_24 : decode b_Maker_meanOfBlock 24 = .ok (.iadd, 1) := by decide +kernel
theorem d_Maker_meanOfBlock_25 : decode b_Maker_meanOfBlock 25 = .ok (.istore 6, 2) := by decide +kernel
theorem d_Maker_meanOfBlock_27 : decode b_Maker_meanOfBlock 27 = .ok (.iload 6, 2) := by decide +kernel
theorem d_Maker_meanOfBlock_29 : decode b_Maker_meanOfBlock 29 = .ok (.iload 5, 2) := by decide +kernel
theorem d_Maker_meanOfBlock_31 : decode b_Maker_meanOfBlock 31 = .ok (.iadd, 1) := by decide +kernel
theorem d_Maker_meanOfBlock_32 : decode b_Maker_meanOfBlock 32 = .ok (.aload_n 0, 1) := by decide +kernel
theorem d_Maker_meanOfBlock_33 : decode b_Maker_meanOfBlock 33 = .ok (.getfield 9, 3) := by decide +kernel
theorem d_Maker_meanOfBlock_36 : decode b_Maker_meanOfBlock 36 = .ok (.iload_n 1, 1) := by decide +kernel
theorem d_Maker_meanOfBlock_37 : decode b_Maker_meanOfBlock 37 = .ok (.invokevirtual 105, 3) := by decide +kernel
theorem d_Maker_meanOfBlock_40 : decode b_Maker_meanOfBlock 40 = .ok (.invokestatic 108, 3) := by decide +kernel
theorem d_Maker_meanOfBlock_43 : decode b_Maker_meanOfBlock 43 = .ok (.istore 7, 2) := by decide +kernel
theorem d_Maker_meanOfBlock_45 : decode b_Maker_meanOfBlock 45 = .ok (.iload_n 3, 1) := by decide +kernel
theorem d_Maker_meanOfBlock_46 : decode b_Maker_meanOfBlock 46 = .ok (.iload 5, 2) := by decide +kernel
theorem d_Maker_meanOfBlock_48 : decode b_Maker_meanOfBlock 48 = .ok (.imul, 1) := by decide +kernel
theorem d_Maker_meanOfBlock_49 : decode b_Maker_meanOfBlock 49 = .ok (.istore 8, 2) := by decide +kernel
theorem d_Maker_meanOfBlock_51 : decode b_Maker_meanOfBlock 51 = .ok (.iload 8, 2) := by decide +kernel
theorem d_Maker_meanOfBlock_53 : decode b_Maker_meanOfBlock 53 = .ok (.iload 5, 2) := by decide +kernel
theorem d_Maker_meanOfBlock_55 : decode b_Maker_meanOfBlock 55 = .ok (.iadd, 1) := by decide +kernel
theorem d_Maker_meanOfBlock_56 : decode b_Maker_meanOfBlock 56 = .ok (.aload_n 0, 1) := by decide +kernel
theorem d_Maker_meanOfBlock_57 : decode b_Maker_meanOfBlock 57 = .ok (.getfield 9, 3) := by decide +kernel
theorem d_Maker_meanOfBlock_60 : decode b_Maker_meanOfBlock 60 = .ok (.getfield 113, 3) := by decide +kernel
theorem d_Maker_meanOfBlock_63 : decode b_Maker_meanOfBlock 63 = .ok (.invokestatic 108, 3) := by decide +kernel
theorem d_Maker_meanOfBlock_66 : decode b_Maker_meanOfBlock 66 = .ok (.istore 9, 2) := by decide +kernel
theorem d_Maker_meanOfBlock_68 : decode b_Maker_meanOfBlock 68 = .ok (.iload_n 2, 1) := by decide +kernel
theorem d_Maker_meanOfBlock_69 : decode b_Maker_meanOfBlock 69 = .ok (.iconst 2, 1) := by decide +kernel
theorem d_Maker_meanOfBlock_70 : decode b_Maker_meanOfBlock 70 = .ok (.if_icmp .ne 7, 3) := by decide +kernel
theorem d_Maker_meanOfBlock_73 : decode b_Maker_meanOfBlock 73 = .ok (.iconst 1, 1) := by decide +kernel
theorem d_Maker_meanOfBlock_74 : decode b_Maker_meanOfBlock 74 = .ok (.goto 4, 3) := by decide +kernel
theorem d_Maker_meanOfBlock_77 : decode b_Maker_meanOfBlock 77 = .ok (.iconst 0, 1) := by decide +kernel
theorem d_Maker_meanOfBlock_78 : decode b_Maker_meanOfBlock 78 = .ok (.istore 10, 2) := by decide +kernel
theorem d_Maker_meanOfBlock_80 : decode b_Maker_meanOfBlock 80 = .ok (.iconst 0, 1) := by decide +kernel
theorem d_Maker_meanOfBlock_81 : decode b_Maker_meanOfBlock 81 = .ok (.istore 11, 2) := by decide +kernel
theorem d_Maker_meanOfBlock_83 : decode b_Maker_meanOfBlock 83 = .ok (.iconst 0, 1) := by decide +kernel
theorem d_Maker_meanOfBlock_84 : decode b_Maker_meanOfBlock 84 = .ok (.istore 12, 2) := by decide +kernel
theorem d_Maker_meanOfBlock_86 : decode b_Maker_meanOfBlock 86 = .ok (.iconst 0, 1) := by decide +kernel
theorem d_Maker_meanOfBlock_87 : decode b_Maker_meanOfBlock 87 = .ok (.istore 13, 2) := by decide +kernel
theorem d_Maker_meanOfBlock_89 : decode b_Maker_meanOfBlock 89 = .ok (.iconst 0, 1) := by decide +kernel
theorem d_Maker_meanOfBlock_90 : decode b_Maker_meanOfBlock 90 = .ok (.istore 14, 2) := by decide +kernel
theorem d_Maker_meanOfBlock_92 : decode b_Maker_meanOfBlock 92 = .ok (.iload 6, 2) := by decide +kernel
theorem d_Maker_meanOfBlock_94 : decode b_Maker_meanOfBlock 94 = .ok (.istore 15, 2) := by decide +kernel
theorem d_Maker_meanOfBlock_96 : decode b_Maker_meanOfBlock 96 = .ok (.iload 15, 2) := by decide +kernel
theorem d_Maker_meanOfBlock_98 : decode b_Maker_meanOfBlock 98 = .ok (.iload 7, 2) := by decide +kernel
theorem d_Maker_meanOfBlock_100 : decode b_Maker_meanOfBlock 100 = .ok (.if_icmp .ge 112, 3) := by decide +kernel
theorem d_Maker_meanOfBlock_103 : decode b_Maker_meanOfBlock 103 = .ok (.iload 15, 2) := by decide +kernel
theorem d_Maker_meanOfBlock_105 : decode b_Maker_meanOfBlock 105 = .ok (.aload_n 0, 1) := by decide +kernel
theorem d_Maker_meanOfBlock_106 : decode b_Maker_meanOfBlock 106 = .ok (.getfield 9, 3) := by decide +kernel
theorem d_Maker_meanOfBlock_109 : decode b_Maker_meanOfBlock 109 = .ok (.getfield 113, 3) := by decide +kernel
theorem d_Maker_meanOfBlock_112 : decode b_Maker_meanOfBlock 112 = .ok (.imul, 1) := by decide +kernel
theorem d_Maker_meanOfBlock_113 : decode b_Maker_meanOfBlock 113 = .ok (.iload 9, 2) := by decide +kernel
theorem d_Maker_meanOfBlock_115 : decode b_Maker_meanOfBlock 115 = .ok (.iadd, 1) := by decide +kernel
theorem d_Maker_meanOfBlock_116 : decode b_Maker_meanOfBlock 116 = .ok (.istore 16, 2) := by decide +kernel
theorem d_Maker_meanOfBlock_118 : decode b_Maker_meanOfBlock 118 = .ok (.iload 15, 2) := by decide +kernel
theorem d_Maker_meanOfBlock_120 : decode b_Maker_meanOfBlock 120 = .ok (.aload_n 0, 1) := by decide +kernel
theorem d_Maker_meanOfBlock_121 : decode b_Maker_meanOfBlock 121 = .ok (.getfield 9, 3) := by decide +kernel
theorem d_Maker_meanOfBlock_124 : decode b_Maker_meanOfBlock 124 = .ok (.getfield 113, 3) := by decide +kernel
theorem d_Maker_meanOfBlock_127 : decode b_Maker_meanOfBlock 127 = .ok (.imul, 1) := by decide +kernel
theorem d_Maker_meanOfBlock_128 : decode b_Maker_meanOfBlock 128 = .ok (.iload 8, 2) := by decide +kernel
theorem d_Maker_meanOfBlock_130 : decode b_Maker_meanOfBlock 130 = .ok (.iadd, 1) := by decide +kernel
theorem d_Maker_meanOfBlock_131 : decode b_Maker_meanOfBlock 131 = .ok (.istore 17, 2) := by decide +kernel
theorem d_Maker_meanOfBlock_133 : decode b_Maker_meanOfBlock 133 = .ok (.iload 17, 2) := by decide +kernel
theorem d_Maker_meanOfBlock_135 : decode b_Maker_meanOfBlock 135 = .ok (.iload 16, 2) := by decide +kernel
theorem d_Maker_meanOfBlock_137 : decode b_Maker_meanOfBlock 137 = .ok (.if_icmp .ge 69, 3) := by decide +kernel
theorem d_Maker_meanOfBlock_140 : decode b_Maker_meanOfBlock 140 = .ok (.aload_n 0, 1) := by decide +kernel
theorem d_Maker_meanOfBlock_141 : decode b_Maker_meanOfBlock 141 = .ok (.getfield 19, 3) := by decide +kernel
theorem d_Maker_meanOfBlock_144 : decode b_Maker_meanOfBlock 144 = .ok (.iload 17, 2) := by decide +kernel
theorem d_Maker_meanOfBlock_146 : decode b_Maker_meanOfBlock 146 = .ok (.iaload, 1) := by decide +kernel
theorem d_Maker_meanOfBlock_147 : decode b_Maker_meanOfBlock 147 = .ok (.iload 10, 2) := by decide +kernel
theorem d_Maker_meanOfBlock_149 : decode b_Maker_meanOfBlock 149 = .ok (.if_icmp .ne 51, 3) := by decide +kernel
theorem d_Maker_meanOfBlock_152 : decode b_Maker_meanOfBlock 152 = .ok (.iinc 11 1, 3) := by decide +kernel
theorem d_Maker_meanOfBlock_155 : decode b_Maker_meanOfBlock 155 = .ok (.iload 12, 2) := by decide +kernel
theorem d_Maker_meanOfBlock_157 : decode b_Maker_meanOfBlock 157 = .ok (.aload_n 0, 1) := by decide +kernel
theorem d_Maker_meanOfBlock_158 : decode b_Maker_meanOfBlock 158 = .ok (.getfield 15, 3) := by decide +kernel
theorem d_Maker_meanOfBlock_161 : decode b_Maker_meanOfBlock 161 = .ok (.iload 17, 2) := by decide +kernel
theorem d_Maker_meanOfBlock_163 : decode b_Maker_meanOfBlock 163 = .ok (.iaload, 1) := by decide +kernel
theorem d_Maker_meanOfBlock_164 : decode b_Maker_meanOfBlock 164 = .ok (.invokestatic 116, 3) := by decide +kernel
theorem d_Maker_meanOfBlock_167 : decode b_Maker_meanOfBlock 167 = .ok (.iadd, 1) := by decide +kernel
theorem d_Maker_meanOfBlock_168 : decode b_Maker_meanOfBlock 168 = .ok (.istore 12, 2) := by decide +kernel
theorem d_Maker_meanOfBlock_170 : decode b_Maker_meanOfBlock 170 = .ok (.iload 13, 2) := by decide +kernel
theorem d_Maker_meanOfBlock_172 : decode b_Maker_meanOfBlock 172 = .ok (.aload_n 0, 1) := by decide +kernel
theorem d_Maker_meanOfBlock_173 : decode b_Maker_meanOfBlock 173 = .ok (.getfield 15, 3) := by decide +kernel
theorem d_Maker_meanOfBlock_176 : decode b_Maker_meanOfBlock 176 = .ok (.iload 17, 2) := by decide +kernel
theorem d_Maker_meanOfBlock_178 : decode b_Maker_meanOfBlock 178 = .ok (.iaload, 1) := by decide +kernel
theorem d_Maker_meanOfBlock_179 : decode b_Maker_meanOfBlock 179 = .ok (.invokestatic 119, 3) := by decide +kernel
theorem d_Maker_meanOfBlock_182 : decode b_Maker_meanOfBlock 182 = .ok (.iadd, 1) := by decide +kernel
theorem d_Maker_meanOfBlock_183 : decode b_Maker_meanOfBlock 183 = .ok (.istore 13, 2) := by decide +kernel
theorem d_Maker_meanOfBlock_185 : decode b_Maker_meanOfBlock 185 = .ok (.iload 14, 2) := by decide +kernel
theorem d_Maker_meanOfBlock_187 : decode b_Maker_meanOfBlock 187 = .ok (.aload_n 0, 1) := by decide +kernel
theorem d_Maker_meanOfBlock_188 : decode b_Maker_meanOfBlock 188 = .ok (.getfield 15, 3) := by decide +kernel
theorem d_Maker_meanOfBlock_191 : decode b_Maker_meanOfBlock 191 = .ok (.iload 17, 2) := by decide +kernel
theorem d_Maker_meanOfBlock_193 : decode b_Maker_meanOfBlock 193 = .ok (.iaload, 1) := by decide +kernel
theorem d_Maker_meanOfBlock_194 : decode b_Maker_meanOfBlock 194 = .ok (.invokestatic 122, 3) := by decide +kernel
theorem d_Maker_meanOfBlock_197 : decode b_Maker_meanOfBlock 197 = .ok (.iadd, 1) := by decide +kernel
theorem d_Maker_meanOfBlock_198 : decode b_Maker_meanOfBlock 198 = .ok (.istore 14, 2) := by decide +kernel
theorem d_Maker_meanOfBlock_200 : decode b_Maker_meanOfBlock 200 = .ok (.iinc 17 1, 3) := by decide +kernel
theorem d_Maker_meanOfBlock_203 : decode b_Maker_meanOfBlock 203 = .ok (.goto (-70), 3) := by decide +kernel
theorem d_Maker_meanOfBlock_206 : decode b_Maker_meanOfBlock 206 = .ok (.iinc 15 1, 3) := by decide +kernel
theorem d_Maker_meanOfBlock_209 : decode b_Maker_meanOfBlock 209 = .ok (.goto (-113), 3) := by decide +kernel
theorem d_Maker_meanOfBlock_212 : decode b_Maker_meanOfBlock 212 = .ok (.iload 11, 2) := by decide +kernel
theorem d_Maker_meanOfBlock_214 : decode b_Maker_meanOfBlock 214 = .ok (.ifCond .ne 7, 3) := by decide +kernel
theorem d_Maker_meanOfBlock_217 : decode b_Maker_meanOfBlock 217 = .ok (.iconst (-1), 1) := by decide +kernel
theorem d_Maker_meanOfBlock_218 : decode b_Maker_meanOfBlock 218 = .ok (.goto 27, 3) := by decide +kernel
theorem d_Maker_meanOfBlock_221 : decode b_Maker_meanOfBlock 221 = .ok (.iload 12, 2) := by decide +kernel
theorem d_Maker_meanOfBlock_223 : decode b_Maker_meanOfBlock 223 = .ok (.iload 11, 2) := by decide +kernel
theorem d_Maker_meanOfBlock_225 : decode b_Maker_meanOfBlock 225 = .ok (.invokestatic 125, 3) := by decide +kernel
theorem d_Maker_meanOfBlock_228 : decode b_Maker_meanOfBlock 228 = .ok (.iload 13, 2) := by decide +kernel
theorem d_Maker_meanOfBlock_230 : decode b_Maker_meanOfBlock 230 = .ok (.iload 11, 2) := by decide +kernel
theorem d_Maker_meanOfBlock_232 : decode b_Maker_meanOfBlock 232 = .ok (.invokestatic 125, 3) := by decide +kernel
theorem d_Maker_meanOfBlock_235 : decode b_Maker_meanOfBlock 235 = .ok (.iload 14, 2) := by decide +kernel
theorem d_Maker_meanOfBlock_237 : decode b_Maker_meanOfBlock 237 = .ok (.iload 11, 2) := by decide +kernel
theorem d_Maker_meanOfBlock_239 : decode b_Maker_meanOfBlock 239 = .ok (.invokestatic 125, 3) := by decide +kernel
theorem d_Maker_meanOfBlock_242 : decode b_Maker_meanOfBlock 242 = .ok (.invokestatic 128, 3) := by decide +kernel
theorem d_Maker_meanOfBlock_245 : decode b_Maker_meanOfBlock 245 = .ok (.ireturn, 1) := by decide +kernel
abbrev b_Maker_takeMask : ByteArray := prog_4_method_5_code
def y_Maker_takeMask : MethodName := ⟨"MaskLayers$Maker", "takeMask", "(I)I"⟩
theorem d_Maker_takeMask_0 : decode b_Maker_takeMask 0 = .ok (.iconst 0, 1) := by decide +kernel
theorem d_Maker_takeMask_1 : decode b_Maker_takeMask 1 = .ok (.istore_n 2, 1) := by decide +kernel
theorem d_Maker_takeMask_2 : decode b_Maker_takeMask 2 = .ok (.aload_n 0, 1) := by decide +kernel
theorem d_Maker_takeMask_3 : decode b_Maker_takeMask 3 = .ok (.getfield 9, 3) := by decide +kernel
theorem d_Maker_takeMask_6 : decode b_Maker_takeMask 6 = .ok (.iload_n 1, 1) := by decide +kernel
theorem d_Maker_takeMask_7 : decode b_Maker_takeMask 7 = .ok (.iconst 1, 1) := by decide +kernel
theorem d_Maker_takeMask_8 : decode b_Maker_takeMask 8 = .ok (.invokevirtual 63, 3) := by decide +kernel
theorem d_Maker_takeMask_11 : decode b_Maker_takeMask 11 = .ok (.istore_n 3, 1) := by decide +kernel
theorem d_Maker_takeMask_12 : decode b_Maker_takeMask 12 = .ok (.aload_n 0, 1) := by decide +kernel
theorem d_Maker_takeMask_13 : decode b_Maker_takeMask 13 = .ok (.getfield 9, 3) := by decide +kernel
theorem d_Maker_takeMask_16 : decode b_Maker_takeMask 16 = .ok (.iload_n 1, 1) := by decide +kernel
theorem d_Maker_takeMask_17 : decode b_Maker_takeMask 17 = .ok (.invokevirtual 67, 3) := by decide +kernel
theorem d_Maker_takeMask_20 : decode b_Maker_takeMask 20 = .ok (.istore 4, 2) := by decide +kernel
theorem d_Maker_takeMask_22 : decode b_Maker_takeMask 22 = .ok (.iload 4, 2) := by decide +kernel
theorem d_Maker_takeMask_24 : decode b_Maker_takeMask 24 = .ok (.iload_n 3, 1) := by decide +kernel
theorem d_Maker_takeMask_25 : decode b_Maker_takeMask 25 = .ok (.if_icmp .ge 38, 3) := by decide +kernel
theorem d_Maker_takeMask_28 : decode b_Maker_takeMask 28 = .ok (.aload_n 0, 1) := by decide +kernel
theorem d_Maker_takeMask_29 : decode b_Maker_takeMask 29 = .ok (.getfield 9, 3) := by decide +kernel
theorem d_Maker_takeMask_32 : decode b_Maker_takeMask 32 = .ok (.getfield 85, 3) := by decide +kernel
theorem d_Maker_takeMask_35 : decode b_Maker_takeMask 35 = .ok (.iconst 1, 1) := by decide +kernel
theorem d_Maker_takeMask_36 : decode b_Maker_takeMask 36 = .ok (.aaload, 1) := by decide +kernel
theorem d_Maker_takeMask_37 : decode b_Maker_takeMask 37 = .ok (.iload 4, 2) := by decide +kernel
theorem d_Maker_takeMask_39 : decode b_Maker_takeMask 39 = .ok (.aload_n 0, 1) := by decide +kernel
theorem d_Maker_takeMask_40 : decode b_Maker_takeMask 40 = .ok (.getfield 19, 3) := by decide +kernel
theorem d_Maker_takeMask_43 : decode b_Maker_takeMask 43 = .ok (.iload 4, 2) := by decide +kernel
theorem d_Maker_takeMask_45 : decode b_Maker_takeMask 45 = .ok (.iaload, 1) := by decide +kernel
theorem d_Maker_takeMask_46 : decode b_Maker_takeMask 46 = .ok (.iastore, 1) := by decide +kernel
theorem d_Maker_takeMask_47 : decode b_Maker_takeMask 47 = .ok (.iload_n 2, 1) := by decide +kernel
theorem d_Maker_takeMask_48 : decode b_Maker_takeMask 48 = .ok (.aload_n 0, 1) := by decide +kernel
theorem d_Maker_takeMask_49 : decode b_Maker_takeMask 49 = .ok (.getfield 19, 3) := by decide +kernel
theorem d_Maker_takeMask_52 : decode b_Maker_takeMask 52 = .ok (.iload 4, 2) := by decide +kernel
theorem d_Maker_takeMask_54 : decode b_Maker_takeMask 54 = .ok (.iaload, 1) := by decide +kernel
theorem d_Maker_takeMask_55 : decode b_Maker_takeMask 55 = .ok (.iadd, 1) := by decide +kernel
theorem d_Maker_takeMask_56 : decode b_Maker_takeMask 56 = .ok (.istore_n 2, 1) := by decide +kernel
theorem d_Maker_takeMask_57 : decode b_Maker_takeMask 57 = .ok (.iinc 4 1, 3) := by decide +kernel
theorem d_Maker_takeMask_60 : decode b_Maker_takeMask 60 = .ok (.goto (-38), 3) := by decide +kernel
theorem d_Maker_takeMask_63 : decode b_Maker_takeMask 63 = .ok (.iload_n 2, 1) := by decide +kernel
theorem d_Maker_takeMask_64 : decode b_Maker_takeMask 64 = .ok (.ireturn, 1) := by decide +kernel
abbrev b_Maker_makeBlocks : ByteArray := prog_4_method_6_code
def y_Maker_makeBlocks : MethodName := ⟨"MaskLayers$Maker", "makeBlocks", "(II)I"⟩
theorem d_Maker_makeBlocks_0 : decode b_Maker_makeBlocks 0 = .ok (.aload_n 0, 1) := by decide +kernel
theorem d_Maker_makeBlocks_1 : decode b_Maker_makeBlocks 1 = .ok (.getfield 9, 3) := by decide +kernel
theorem d_Maker_makeBlocks_4 : decode b_Maker_makeBlocks 4 = .ok (.getfield 85, 3) := by decide +kernel
theorem d_Maker_makeBlocks_7 : decode b_Maker_makeBlocks 7 = .ok (.iload_n 2, 1) := by decide +kernel
theorem d_Maker_makeBlocks_8 : decode b_Maker_makeBlocks 8 = .ok (.aaload, 1) := by decide +kernel
theorem d_Maker_makeBlocks_9 : decode b_Maker_makeBlocks 9 = .ok (.astore_n 3, 1) := by decide +kernel
theorem d_Maker_makeBlocks_10 : decode b_Maker_makeBlocks 10 = .ok (.aload_n 0, 1) := by decide +kernel
theorem d_Maker_makeBlocks_11 : decode b_Maker_makeBlocks 11 = .ok (.getfield 9, 3) := by decide +kernel
theorem d_Maker_makeBlocks_14 : decode b_Maker_makeBlocks 14 = .ok (.iload_n 1, 1) := by decide +kernel
theorem d_Maker_makeBlocks_15 : decode b_Maker_makeBlocks 15 = .ok (.iload_n 2, 1) := by decide +kernel
theorem d_Maker_makeBlocks_16 : decode b_Maker_makeBlocks 16 = .ok (.invokevirtual 89, 3) := by decide +kernel
theorem d_Maker_makeBlocks_19 : decode b_Maker_makeBlocks 19 = .ok (.istore 4, 2) := by decide +kernel
theorem d_Maker_makeBlocks_21 : decode b_Maker_makeBlocks 21 = .ok (.aload_n 0, 1) := by decide +kernel
theorem d_Maker_makeBlocks_22 : decode b_Maker_makeBlocks 22 = .ok (.getfield 9, 3) := by decide +kernel
theorem d_Maker_makeBlocks_25 : decode b_Maker_makeBlocks 25 = .ok (.getfield 92, 3) := by decide +kernel
theorem d_Maker_makeBlocks_28 : decode b_Maker_makeBlocks 28 = .ok (.iload_n 2, 1) := by decide +kernel
theorem d_Maker_makeBlocks_29 : decode b_Maker_makeBlocks 29 = .ok (.iaload, 1) := by decide +kernel
theorem d_Maker_makeBlocks_30 : decode b_Maker_makeBlocks 30 = .ok (.istore 5, 2) := by decide +kernel
theorem d_Maker_makeBlocks_32 : decode b_Maker_makeBlocks 32 = .ok (.aload_n 0, 1) := by decide +kernel
theorem d_Maker_makeBlocks_33 : decode b_Maker_makeBlocks 33 = .ok (.getfield 9, 3) := by decide +kernel
theorem d_Maker_makeBlocks_36 : decode b_Maker_makeBlocks 36 = .ok (.iload_n 1, 1) := by decide +kernel
theorem d_Maker_makeBlocks_37 : decode b_Maker_makeBlocks 37 = .ok (.invokevirtual 67, 3) := by decide +kernel
theorem d_Maker_makeBlocks_40 : decode b_Maker_makeBlocks 40 = .ok (.istore 6, 2) := by decide +kernel
theorem d_Maker_makeBlocks_42 : decode b_Maker_makeBlocks 42 = .ok (.iconst (-1), 1) := by decide +kernel
theorem d_Maker_makeBlocks_43 : decode b_Maker_makeBlocks 43 = .ok (.istore 7, 2) := by decide +kernel
theorem d_Maker_makeBlocks_45 : decode b_Maker_makeBlocks 45 = .ok (.iconst 0, 1) := by decide +kernel
theorem d_Maker_makeBlocks_46 : decode b_Maker_makeBlocks 46 = .ok (.istore 8, 2) := by decide +kernel
theorem d_Maker_makeBlocks_48 : decode b_Maker_makeBlocks 48 = .ok (.iload 8, 2) := by decide +kernel
theorem d_Maker_makeBlocks_50 : decode b_Maker_makeBlocks 50 = .ok (.iload 4, 2) := by decide +kernel
theorem d_Maker_makeBlocks_52 : decode b_Maker_makeBlocks 52 = .ok (.if_icmp .ge 59, 3) := by decide +kernel
theorem d_Maker_makeBlocks_55 : decode b_Maker_makeBlocks 55 = .ok (.iconst 0, 1) := by decide +kernel
theorem d_Maker_makeBlocks_56 : decode b_Maker_makeBlocks 56 = .ok (.istore 9, 2) := by decide +kernel
theorem d_Maker_makeBlocks_58 : decode b_Maker_makeBlocks 58 = .ok (.iload 9, 2) := by decide +kernel
theorem d_Maker_makeBlocks_60 : decode b_Maker_makeBlocks 60 = .ok (.iload 5, 2) := by decide +kernel
theorem d_Maker_makeBlocks_62 : decode b_Maker_makeBlocks 62 = .ok (.if_icmp .ge 43, 3) := by decide +kernel
theorem d_Maker_makeBlocks_65 : decode b_Maker_makeBlocks 65 = .ok (.aload_n 3, 1) := by decide +kernel
theorem d_Maker_makeBlocks_66 : decode b_Maker_makeBlocks 66 = .ok (.iload 6, 2) := by decide +kernel
theorem d_Maker_makeBlocks_68 : decode b_Maker_makeBlocks 68 = .ok (.aload_n 0, 1) := by decide +kernel
theorem d_Maker_makeBlocks_69 : decode b_Maker_makeBlocks 69 = .ok (.iload_n 1, 1) := by decide +kernel
theorem d_Maker_makeBlocks_70 : decode b_Maker_makeBlocks 70 = .ok (.iload_n 2, 1) := by decide +kernel
theorem d_Maker_makeBlocks_71 : decode b_Maker_makeBlocks 71 = .ok (.iload 9, 2) := by decide +kernel
theorem d_Maker_makeBlocks_73 : decode b_Maker_makeBlocks 73 = .ok (.iload 8, 2) := by decide +kernel
theorem d_Maker_makeBlocks_75 : decode b_Maker_makeBlocks 75 = .ok (.invokevirtual 95, 3) := by decide +kernel
theorem d_Maker_makeBlocks_78 : decode b_Maker_makeBlocks 78 = .ok (.iastore, 1) := by decide +kernel
theorem d_Maker_makeBlocks_79 : decode b_Maker_makeBlocks 79 = .ok (.iload 7, 2) := by decide +kernel
theorem d_Maker_makeBlocks_81 : decode b_Maker_makeBlocks 81 = .ok (.iconst (-1), 1) := by decide +kernel
theorem d_Maker_makeBlocks_82 : decode b_Maker_makeBlocks 82 = .ok (.if_icmp .ne 10, 3) := by decide +kernel
theorem d_Maker_makeBlocks_85 : decode b_Maker_makeBlocks 85 = .ok (.aload_n 3, 1) := by decide +kernel
theorem d_Maker_makeBlocks_86 : decode b_Maker_makeBlocks 86 = .ok (.iload 6, 2) := by decide +kernel
theorem d_Maker_makeBlocks_88 : decode b_Maker_makeBlocks 88 = .ok (.iaload, 1) := by decide +kernel
theorem d_Maker_makeBlocks_89 : decode b_Maker_makeBlocks 89 = .ok (.goto 5, 3) := by decide +kernel
