theorem d_Layers_valueAt_16 : decode b_Layers_valueAt 16 = .ok (.iload_n 1, 1) := by decide +kernel
theorem d_Layers_valueAt_17 : decode b_Layers_valueAt 17 = .ok (.iload_n 2, 1) := by decide +kernel
theorem d_Layers_valueAt_18 : decode b_Layers_valueAt 18 = .ok (.iload_n 3, 1) := by decide +kernel
theorem d_Layers_valueAt_19 : decode b_Layers_valueAt 19 = .ok (.invokevirtual 87, 3) := by decide +kernel
theorem d_Layers_valueAt_22 : decode b_Layers_valueAt 22 = .ok (.invokevirtual 91, 3) := by decide +kernel
theorem d_Layers_valueAt_25 : decode b_Layers_valueAt 25 = .ok (.goto 4, 3) := by decide +kernel
theorem d_Layers_valueAt_28 : decode b_Layers_valueAt 28 = .ok (.iconst (-1), 1) := by decide +kernel
theorem d_Layers_valueAt_29 : decode b_Layers_valueAt 29 = .ok (.ireturn, 1) := by decide +kernel
abbrev b_Layers_joinedAt : ByteArray := prog_3_method_22_code
def y_Layers_joinedAt : MethodName := ⟨"MaskLayers$Layers", "joinedAt", "(II)I"⟩
theorem d_Layers_joinedAt_0 : decode b_Layers_joinedAt 0 = .ok (.aload_n 0, 1) := by decide +kernel
theorem d_Layers_joinedAt_1 : decode b_Layers_joinedAt 1 = .ok (.aload_n 0, 1) := by decide +kernel
theorem d_Layers_joinedAt_2 : decode b_Layers_joinedAt 2 = .ok (.iconst 1, 1) := by decide +kernel
theorem d_Layers_joinedAt_3 : decode b_Layers_joinedAt 3 = .ok (.iload_n 1, 1) := by decide +kernel
theorem d_Layers_joinedAt_4 : decode b_Layers_joinedAt 4 = .ok (.iload_n 2, 1) := by decide +kernel
theorem d_Layers_joinedAt_5 : decode b_Layers_joinedAt 5 = .ok (.invokevirtual 94, 3) := by decide +kernel
theorem d_Layers_joinedAt_8 : decode b_Layers_joinedAt 8 = .ok (.iconst 1, 1) := by decide +kernel
theorem d_Layers_joinedAt_9 : decode b_Layers_joinedAt 9 = .ok (.if_icmp .ne 7, 3) := by decide +kernel
theorem d_Layers_joinedAt_12 : decode b_Layers_joinedAt 12 = .ok (.iconst 2, 1) := by decide +kernel
theorem d_Layers_joinedAt_13 : decode b_Layers_joinedAt 13 = .ok (.goto 4, 3) := by decide +kernel
theorem d_Layers_joinedAt_16 : decode b_Layers_joinedAt 16 = .ok (.iconst 0, 1) := by decide +kernel
theorem d_Layers_joinedAt_17 : decode b_Layers_joinedAt 17 = .ok (.iload_n 1, 1) := by decide +kernel
theorem d_Layers_joinedAt_18 : decode b_Layers_joinedAt 18 = .ok (.iload_n 2, 1) := by decide +kernel
theorem d_Layers_joinedAt_19 : decode b_Layers_joinedAt 19 = .ok (.invokevirtual 94, 3) := by decide +kernel
theorem d_Layers_joinedAt_22 : decode b_Layers_joinedAt 22 = .ok (.istore_n 3, 1) := by decide +kernel
theorem d_Layers_joinedAt_23 : decode b_Layers_joinedAt 23 = .ok (.iload_n 3, 1) := by decide +kernel
theorem d_Layers_joinedAt_24 : decode b_Layers_joinedAt 24 = .ok (.iconst (-1), 1) := by decide +kernel
theorem d_Layers_joinedAt_25 : decode b_Layers_joinedAt 25 = .ok (.if_icmp .ne 7, 3) := by decide +kernel
theorem d_Layers_joinedAt_28 : decode b_Layers_joinedAt 28 = .ok (.iconst 0, 1) := by decide +kernel
theorem d_Layers_joinedAt_29 : decode b_Layers_joinedAt 29 = .ok (.goto 4, 3) := by decide +kernel
theorem d_Layers_joinedAt_32 : decode b_Layers_joinedAt 32 = .ok (.iload_n 3, 1) := by decide +kernel
theorem d_Layers_joinedAt_33 : decode b_Layers_joinedAt 33 = .ok (.ireturn, 1) := by decide +kernel
abbrev b_Layers_exactAt : ByteArray := prog_3_method_23_code
def y_Layers_exactAt : MethodName := ⟨"MaskLayers$Layers", "exactAt", "(II)I"⟩
theorem d_Layers_exactAt_0 : decode b_Layers_exactAt 0 = .ok (.aload_n 0, 1) := by decide +kernel
theorem d_Layers_exactAt_1 : decode b_Layers_exactAt 1 = .ok (.iconst 3, 1) := by decide +kernel
theorem d_Layers_exactAt_2 : decode b_Layers_exactAt 2 = .ok (.iload_n 1, 1) := by decide +kernel
theorem d_Layers_exactAt_3 : decode b_Layers_exactAt 3 = .ok (.iload_n 2, 1) := by decide +kernel
theorem d_Layers_exactAt_4 : decode b_Layers_exactAt 4 = .ok (.invokevirtual 94, 3) := by decide +kernel
theorem d_Layers_exactAt_7 : decode b_Layers_exactAt 7 = .ok (.istore_n 3, 1) := by decide +kernel
theorem d_Layers_exactAt_8 : decode b_Layers_exactAt 8 = .ok (.iload_n 3, 1) := by decide +kernel
theorem d_Layers_exactAt_9 : decode b_Layers_exactAt 9 = .ok (.iconst (-1), 1) := by decide +kernel
theorem d_Layers_exactAt_10 : decode b_Layers_exactAt 10 = .ok (.if_icmp .ne 12, 3) := by decide +kernel
theorem d_Layers_exactAt_13 : decode b_Layers_exactAt 13 = .ok (.aload_n 0, 1) := by decide +kernel
theorem d_Layers_exactAt_14 : decode b_Layers_exactAt 14 = .ok (.iload_n 1, 1) := by decide +kernel
theorem d_Layers_exactAt_15 : decode b_Layers_exactAt 15 = .ok (.iload_n 2, 1) := by decide +kernel
theorem d_Layers_exactAt_16 : decode b_Layers_exactAt 16 = .ok (.invokevirtual 97, 3) := by decide +kernel
theorem d_Layers_exactAt_19 : decode b_Layers_exactAt 19 = .ok (.goto 13, 3) := by decide +kernel
theorem d_Layers_exactAt_22 : decode b_Layers_exactAt 22 = .ok (.aload_n 0, 1) := by decide +kernel
theorem d_Layers_exactAt_23 : decode b_Layers_exactAt 23 = .ok (.iload_n 1, 1) := by decide +kernel
theorem d_Layers_exactAt_24 : decode b_Layers_exactAt 24 = .ok (.iload_n 2, 1) := by decide +kernel
theorem d_Layers_exactAt_25 : decode b_Layers_exactAt 25 = .ok (.invokevirtual 97, 3) := by decide +kernel
theorem d_Layers_exactAt_28 : decode b_Layers_exactAt 28 = .ok (.iload_n 3, 1) := by decide +kernel
theorem d_Layers_exactAt_29 : decode b_Layers_exactAt 29 = .ok (.invokestatic 100, 3) := by decide +kernel
theorem d_Layers_exactAt_32 : decode b_Layers_exactAt 32 = .ok (.ireturn, 1) := by decide +kernel
abbrev b_Arrays_fill : ByteArray := prog_20_method_103_code
def y_Arrays_fill : MethodName := ⟨"java/util/Arrays", "fill", "([II)V"⟩
theorem d_Arrays_fill_0 : decode b_Arrays_fill 0 = .ok (.iconst 0, 1) := by decide +kernel
theorem d_Arrays_fill_1 : decode b_Arrays_fill 1 = .ok (.istore_n 2, 1) := by decide +kernel
theorem d_Arrays_fill_2 : decode b_Arrays_fill 2 = .ok (.aload_n 0, 1) := by decide +kernel
theorem d_Arrays_fill_3 : decode b_Arrays_fill 3 = .ok (.arraylength, 1) := by decide +kernel
theorem d_Arrays_fill_4 : decode b_Arrays_fill 4 = .ok (.istore_n 3, 1) := by decide +kernel
theorem d_Arrays_fill_5 : decode b_Arrays_fill 5 = .ok (.iload_n 2, 1) := by decide +kernel
theorem d_Arrays_fill_6 : decode b_Arrays_fill 6 = .ok (.iload_n 3, 1) := by decide +kernel
theorem d_Arrays_fill_7 : decode b_Arrays_fill 7 = .ok (.if_icmp .ge 13, 3) := by decide +kernel
theorem d_Arrays_fill_10 : decode b_Arrays_fill 10 = .ok (.aload_n 0, 1) := by decide +kernel
theorem d_Arrays_fill_11 : decode b_Arrays_fill 11 = .ok (.iload_n 2, 1) := by decide +kernel
theorem d_Arrays_fill_12 : decode b_Arrays_fill 12 = .ok (.iload_n 1, 1) := by decide +kernel
theorem d_Arrays_fill_13 : decode b_Arrays_fill 13 = .ok (.iastore, 1) := by decide +kernel
theorem d_Arrays_fill_14 : decode b_Arrays_fill 14 = .ok (.iinc 2 1, 3) := by decide +kernel
theorem d_Arrays_fill_17 : decode b_Arrays_fill 17 = .ok (.goto (-12), 3) := by decide +kernel
theorem d_Arrays_fill_20 : decode b_Arrays_fill 20 = .ok (.return_, 1) := by decide +kernel
abbrev b_Layers_forget : ByteArray := prog_3_method_2_code
def y_Layers_forget : MethodName := ⟨"MaskLayers$Layers", "forget", "()V"⟩
theorem d_Layers_forget_0 : decode b_Layers_forget 0 = .ok (.aload_n 0, 1) := by decide +kernel
theorem d_Layers_forget_1 : decode b_Layers_forget 1 = .ok (.getfield 16, 3) := by decide +kernel
theorem d_Layers_forget_4 : decode b_Layers_forget 4 = .ok (.iconst 0, 1) := by decide +kernel
theorem d_Layers_forget_5 : decode b_Layers_forget 5 = .ok (.invokestatic 20, 3) := by decide +kernel
theorem d_Layers_forget_8 : decode b_Layers_forget 8 = .ok (.aload_n 0, 1) := by decide +kernel
theorem d_Layers_forget_9 : decode b_Layers_forget 9 = .ok (.iconst 0, 1) := by decide +kernel
theorem d_Layers_forget_10 : decode b_Layers_forget 10 = .ok (.putfield 26, 3) := by decide +kernel
theorem d_Layers_forget_13 : decode b_Layers_forget 13 = .ok (.return_, 1) := by decide +kernel
abbrev b_Layers_shape : ByteArray := prog_3_method_3_code
def y_Layers_shape : MethodName := ⟨"MaskLayers$Layers", "shape", "(IIIII)V"⟩
theorem d_Layers_shape_0 : decode b_Layers_shape 0 = .ok (.aload_n 0, 1) := by decide +kernel
theorem d_Layers_shape_1 : decode b_Layers_shape 1 = .ok (.iload_n 1, 1) := by decide +kernel
theorem d_Layers_shape_2 : decode b_Layers_shape 2 = .ok (.putfield 30, 3) := by decide +kernel
theorem d_Layers_shape_5 : decode b_Layers_shape 5 = .ok (.aload_n 0, 1) := by decide +kernel
theorem d_Layers_shape_6 : decode b_Layers_shape 6 = .ok (.iload_n 2, 1) := by decide +kernel
theorem d_Layers_shape_7 : decode b_Layers_shape 7 = .ok (.putfield 33, 3) := by decide +kernel
theorem d_Layers_shape_10 : decode b_Layers_shape 10 = .ok (.aload_n 0, 1) := by decide +kernel
theorem d_Layers_shape_11 : decode b_Layers_shape 11 = .ok (.iload_n 3, 1) := by decide +kernel
theorem d_Layers_shape_12 : decode b_Layers_shape 12 = .ok (.putfield 36, 3) := by decide +kernel
theorem d_Layers_shape_15 : decode b_Layers_shape 15 = .ok (.aload_n 0, 1) := by decide +kernel
theorem d_Layers_shape_16 : decode b_Layers_shape 16 = .ok (.iload 4, 2) := by decide +kernel
theorem d_Layers_shape_18 : decode b_Layers_shape 18 = .ok (.putfield 39, 3) := by decide +kernel
theorem d_Layers_shape_21 : decode b_Layers_shape 21 = .ok (.aload_n 0, 1) := by decide +kernel
theorem d_Layers_shape_22 : decode b_Layers_shape 22 = .ok (.iload 5, 2) := by decide +kernel
theorem d_Layers_shape_24 : decode b_Layers_shape 24 = .ok (.putfield 42, 3) := by decide +kernel
theorem d_Layers_shape_27 : decode b_Layers_shape 27 = .ok (.return_, 1) := by decide +kernel
abbrev b_Layers_add : ByteArray := prog_3_method_5_code
def y_Layers_add : MethodName := ⟨"MaskLayers$Layers", "add", "(II)V"⟩
theorem d_Layers_add_0 : decode b_Layers_add 0 = .ok (.aload_n 0, 1) := by decide +kernel
theorem d_Layers_add_1 : decode b_Layers_add 1 = .ok (.iload_n 1, 1) := by decide +kernel
theorem d_Layers_add_2 : decode b_Layers_add 2 = .ok (.invokevirtual 45, 3) := by decide +kernel
theorem d_Layers_add_5 : decode b_Layers_add 5 = .ok (.ifCond .eq 25, 3) := by decide +kernel
theorem d_Layers_add_8 : decode b_Layers_add 8 = .ok (.aload_n 0, 1) := by decide +kernel
theorem d_Layers_add_9 : decode b_Layers_add 9 = .ok (.getfield 16, 3) := by decide +kernel
theorem d_Layers_add_12 : decode b_Layers_add 12 = .ok (.iload_n 1, 1) := by decide +kernel
theorem d_Layers_add_13 : decode b_Layers_add 13 = .ok (.dup2, 1) := by decide +kernel
theorem d_Layers_add_14 : decode b_Layers_add 14 = .ok (.iaload, 1) := by decide +kernel
theorem d_Layers_add_15 : decode b_Layers_add 15 = .ok (.iconst 1, 1) := by decide +kernel
theorem d_Layers_add_16 : decode b_Layers_add 16 = .ok (.iload_n 2, 1) := by decide +kernel
theorem d_Layers_add_17 : decode b_Layers_add 17 = .ok (.ishl, 1) := by decide +kernel
theorem d_Layers_add_18 : decode b_Layers_add 18 = .ok (.ior, 1) := by decide +kernel
theorem d_Layers_add_19 : decode b_Layers_add 19 = .ok (.iastore, 1) := by decide +kernel
theorem d_Layers_add_20 : decode b_Layers_add 20 = .ok (.aload_n 0, 1) := by decide +kernel
theorem d_Layers_add_21 : decode b_Layers_add 21 = .ok (.dup, 1) := by decide +kernel
theorem d_Layers_add_22 : decode b_Layers_add 22 = .ok (.getfield 26, 3) := by decide +kernel
theorem d_Layers_add_25 : decode b_Layers_add 25 = .ok (.iconst 1, 1) := by decide +kernel
theorem d_Layers_add_26 : decode b_Layers_add 26 = .ok (.iadd, 1) := by decide +kernel
theorem d_Layers_add_27 : decode b_Layers_add 27 = .ok (.putfield 26, 3) := by decide +kernel
theorem d_Layers_add_30 : decode b_Layers_add 30 = .ok (.return_, 1) := by decide +kernel
abbrev b_Layers_set : ByteArray := prog_3_method_9_code
def y_Layers_set : MethodName := ⟨"MaskLayers$Layers", "set", "(III)V"⟩
theorem d_Layers_set_0 : decode b_Layers_set 0 = .ok (.aload_n 0, 1) := by decide +kernel
theorem d_Layers_set_1 : decode b_Layers_set 1 = .ok (.iload_n 1, 1) := by decide +kernel
theorem d_Layers_set_2 : decode b_Layers_set 2 = .ok (.iload_n 2, 1) := by decide +kernel
theorem d_Layers_set_3 : decode b_Layers_set 3 = .ok (.invokevirtual 49, 3) := by decide +kernel
theorem d_Layers_set_6 : decode b_Layers_set 6 = .ok (.ifCond .eq 12, 3) := by decide +kernel
theorem d_Layers_set_9 : decode b_Layers_set 9 = .ok (.aload_n 0, 1) := by decide +kernel
theorem d_Layers_set_10 : decode b_Layers_set 10 = .ok (.getfield 11, 3) := by decide +kernel
theorem d_Layers_set_13 : decode b_Layers_set 13 = .ok (.iload_n 1, 1) := by decide +kernel
theorem d_Layers_set_14 : decode b_Layers_set 14 = .ok (.aaload, 1) := by decide +kernel
theorem d_Layers_set_15 : decode b_Layers_set 15 = .ok (.iload_n 2, 1) := by decide +kernel
theorem d_Layers_set_16 : decode b_Layers_set 16 = .ok (.iload_n 3, 1) := by decide +kernel
theorem d_Layers_set_17 : decode b_Layers_set 17 = .ok (.iastore, 1) := by decide +kernel
theorem d_Layers_set_18 : decode b_Layers_set 18 = .ok (.return_, 1) := by decide +kernel
abbrev b_ByteRow_empty : ByteArray := prog_2_method_2_code
def y_ByteRow_empty : MethodName := ⟨"MaskLayers$ByteRow", "empty", "()V"⟩
theorem d_ByteRow_empty_0 : decode b_ByteRow_empty 0 = .ok (.aload_n 0, 1) := by decide +kernel
theorem d_ByteRow_empty_1 : decode b_ByteRow_empty 1 = .ok (.iconst 0, 1) := by decide +kernel
theorem d_ByteRow_empty_2 : decode b_ByteRow_empty 2 = .ok (.putfield 15, 3) := by decide +kernel
theorem d_ByteRow_empty_5 : decode b_ByteRow_empty 5 = .ok (.return_, 1) := by decide +kernel
abbrev b_ByteRow_room : ByteArray := prog_2_method_3_code
def y_ByteRow_room : MethodName := ⟨"MaskLayers$ByteRow", "room", "()I"⟩
theorem d_ByteRow_room_0 : decode b_ByteRow_room 0 = .ok (.sipush 6400, 3) := by decide +kernel
theorem d_ByteRow_room_3 : decode b_ByteRow_room 3 = .ok (.aload_n 0, 1) := by decide +kernel
theorem d_ByteRow_room_4 : decode b_ByteRow_room 4 = .ok (.getfield 15, 3) := by decide +kernel
theorem d_ByteRow_room_7 : decode b_ByteRow_room 7 = .ok (.isub, 1) := by decide +kernel
theorem d_ByteRow_room_8 : decode b_ByteRow_room 8 = .ok (.ireturn, 1) := by decide +kernel
abbrev b_ByteRow_holds : ByteArray := prog_2_method_4_code
def y_ByteRow_holds : MethodName := ⟨"MaskLayers$ByteRow", "holds", "(I)Z"⟩
theorem d_ByteRow_holds_0 : decode b_ByteRow_holds 0 = .ok (.iload_n 1, 1) := by decide +kernel
theorem d_ByteRow_holds_1 : decode b_ByteRow_holds 1 = .ok (.ifCond .lt 15, 3) := by decide +kernel
theorem d_ByteRow_holds_4 : decode b_ByteRow_holds 4 = .ok (.iload_n 1, 1) := by decide +kernel
theorem d_ByteRow_holds_5 : decode b_ByteRow_holds 5 = .ok (.aload_n 0, 1) := by decide +kernel
theorem d_ByteRow_holds_6 : decode b_ByteRow_holds 6 = .ok (.getfield 15, 3) := by decide +kernel
theorem d_ByteRow_holds_9 : decode b_ByteRow_holds 9 = .ok (.if_icmp .ge 7, 3) := by decide +kernel
theorem d_ByteRow_holds_12 : decode b_ByteRow_holds 12 = .ok (.iconst 1, 1) := by decide +kernel
theorem d_ByteRow_holds_13 : decode b_ByteRow_holds 13 = .ok (.goto 4, 3) := by decide +kernel
theorem d_ByteRow_holds_16 : decode b_ByteRow_holds 16 = .ok (.iconst 0, 1) := by decide +kernel
theorem d_ByteRow_holds_17 : decode b_ByteRow_holds 17 = .ok (.ireturn, 1) := by decide +kernel
abbrev b_ByteRow_valueAt : ByteArray := prog_2_method_5_code
def y_ByteRow_valueAt : MethodName := ⟨"MaskLayers$ByteRow", "valueAt", "(I)I"⟩
theorem d_ByteRow_valueAt_0 : decode b_ByteRow_valueAt 0 = .ok (.aload_n 0, 1) := by decide +kernel
theorem d_ByteRow_valueAt_1 : decode b_ByteRow_valueAt 1 = .ok (.iload_n 1, 1) := by decide +kernel
theorem d_ByteRow_valueAt_2 : decode b_ByteRow_valueAt 2 = .ok (.invokevirtual 19, 3) := by decide +kernel
theorem d_ByteRow_valueAt_5 : decode b_ByteRow_valueAt 5 = .ok (.ifCond .eq 12, 3) := by decide +kernel
theorem d_ByteRow_valueAt_8 : decode b_ByteRow_valueAt 8 = .ok (.aload_n 0, 1) := by decide +kernel
theorem d_ByteRow_valueAt_9 : decode b_ByteRow_valueAt 9 = .ok (.getfield 9, 3) := by decide +kernel
theorem d_ByteRow_valueAt_12 : decode b_ByteRow_valueAt 12 = .ok (.iload_n 1, 1) := by decide +kernel
theorem d_ByteRow_valueAt_13 : decode b_ByteRow_valueAt 13 = .ok (.iaload, 1) := by decide +kernel
theorem d_ByteRow_valueAt_14 : decode b_ByteRow_valueAt 14 = .ok (.goto 4, 3) := by decide +kernel
theorem d_ByteRow_valueAt_17 : decode b_ByteRow_valueAt 17 = .ok (.iconst (-1), 1) := by decide +kernel
theorem d_ByteRow_valueAt_18 : decode b_ByteRow_valueAt 18 = .ok (.ireturn, 1) := by decide +kernel
abbrev b_ByteRow_replace : ByteArray := prog_2_method_7_code
def y_ByteRow_replace : MethodName := ⟨"MaskLayers$ByteRow", "replace", "(II)I"⟩
theorem d_ByteRow_replace_0 : decode b_ByteRow_replace 0 = .ok (.aload_n 0, 1) := by decide +kernel
theorem d_ByteRow_replace_1 : decode b_ByteRow_replace 1 = .ok (.iload_n 1, 1) := by decide +kernel
theorem d_ByteRow_replace_2 : decode b_ByteRow_replace 2 = .ok (.invokevirtual 39, 3) := by decide +kernel
theorem d_ByteRow_replace_5 : decode b_ByteRow_replace 5 = .ok (.istore_n 3, 1) := by decide +kernel
theorem d_ByteRow_replace_6 : decode b_ByteRow_replace 6 = .ok (.aload_n 0, 1) := by decide +kernel
theorem d_ByteRow_replace_7 : decode b_ByteRow_replace 7 = .ok (.iload_n 1, 1) := by decide +kernel
theorem d_ByteRow_replace_8 : decode b_ByteRow_replace 8 = .ok (.invokevirtual 19, 3) := by decide +kernel
theorem d_ByteRow_replace_11 : decode b_ByteRow_replace 11 = .ok (.ifCond .eq 10, 3) := by decide +kernel
theorem d_ByteRow_replace_14 : decode b_ByteRow_replace 14 = .ok (.aload_n 0, 1) := by decide +kernel
theorem d_ByteRow_replace_15 : decode b_ByteRow_replace 15 = .ok (.getfield 9, 3) := by decide +kernel
theorem d_ByteRow_replace_18 : decode b_ByteRow_replace 18 = .ok (.iload_n 1, 1) := by decide +kernel
theorem d_ByteRow_replace_19 : decode b_ByteRow_replace 19 = .ok (.iload_n 2, 1) := by decide +kernel
theorem d_ByteRow_replace_20 : decode b_ByteRow_replace 20 = .ok (.iastore, 1) := by decide +kernel
theorem d_ByteRow_replace_21 : decode b_ByteRow_replace 21 = .ok (.iload_n 3, 1) := by decide +kernel
theorem d_ByteRow_replace_22 : decode b_ByteRow_replace 22 = .ok (.ireturn, 1) := by decide +kernel
abbrev b_Maker_fillBetween : ByteArray := prog_4_method_12_code
def y_Maker_fillBetween : MethodName := ⟨"MaskLayers$Maker", "fillBetween", "(III)I"⟩
theorem d_Maker_fillBetween_0 : decode b_Maker_fillBetween 0 = .ok (.iload_n 0, 1) := by decide +kernel
theorem d_Maker_fillBetween_1 : decode b_Maker_fillBetween 1 = .ok (.iconst (-1), 1) := by decide +kernel
theorem d_Maker_fillBetween_2 : decode b_Maker_fillBetween 2 = .ok (.if_icmp .ne 10, 3) := by decide +kernel
theorem d_Maker_fillBetween_5 : decode b_Maker_fillBetween 5 = .ok (.iload_n 1, 1) := by decide +kernel
theorem d_Maker_fillBetween_6 : decode b_Maker_fillBetween 6 = .ok (.iconst (-1), 1) := by decide +kernel
theorem d_Maker_fillBetween_7 : decode b_Maker_fillBetween 7 = .ok (.if_icmp .ne 5, 3) := by decide +kernel
theorem d_Maker_fillBetween_10 : decode b_Maker_fillBetween 10 = .ok (.iload_n 2, 1) := by decide +kernel
theorem d_Maker_fillBetween_11 : decode b_Maker_fillBetween 11 = .ok (.ireturn, 1) := by decide +kernel
theorem d_Maker_fillBetween_12 : decode b_Maker_fillBetween 12 = .ok (.iload_n 0, 1) := by decide +kernel
theorem d_Maker_fillBetween_13 : decode b_Maker_fillBetween 13 = .ok (.iconst (-1), 1) := by decide +kernel
theorem d_Maker_fillBetween_14 : decode b_Maker_fillBetween 14 = .ok (.if_icmp .ne 5, 3) := by decide +kernel
theorem d_Maker_fillBetween_17 : decode b_Maker_fillBetween 17 = .ok (.iload_n 1, 1) := by decide +kernel
theorem d_Maker_fillBetween_18 : decode b_Maker_fillBetween 18 = .ok (.ireturn, 1) := by decide +kernel
theorem d_Maker_fillBetween_19 : decode b_Maker_fillBetween 19 = .ok (.iload_n 1, 1) := by decide +kernel
theorem d_Maker_fillBetween_20 : decode b_Maker_fillBetween 20 = .ok (.iconst (-1), 1) := by decide +kernel
theorem d_Maker_fillBetween_21 : decode b_Maker_fillBetween 21 = .ok (.if_icmp .ne 7, 3) := by decide +kernel
theorem d_Maker_fillBetween_24 : decode b_Maker_fillBetween 24 = .ok (.iload_n 0, 1) := by decide +kernel
theorem d_Maker_fillBetween_25 : decode b_Maker_fillBetween 25 = .ok (.goto 8, 3) := by decide +kernel
theorem d_Maker_fillBetween_28 : decode b_Maker_fillBetween 28 = .ok (.iload_n 0, 1) := by decide +kernel
theorem d_Maker_fillBetween_29 : decode b_Maker_fillBetween 29 = .ok (.iload_n 1, 1) := by decide +kernel
theorem d_Maker_fillBetween_30 : decode b_Maker_fillBetween 30 = .ok (.invokestatic 146, 3) := by decide +kernel
theorem d_Maker_fillBetween_33 : decode b_Maker_fillBetween 33 = .ok (.ireturn, 1) := by decide +kernel
abbrev b_Maker_holds : ByteArray := prog_4_method_4_code
def y_Maker_holds : MethodName := ⟨"MaskLayers$Maker", "holds", "([II)Z"⟩
theorem d_Maker_holds_0 : decode b_Maker_holds 0 = .ok (.iload_n 1, 1) := by decide +kernel
theorem d_Maker_holds_1 : decode b_Maker_holds 1 = .ok (.ifCond .lt 13, 3) := by decide +kernel
theorem d_Maker_holds_4 : decode b_Maker_holds 4 = .ok (.iload_n 1, 1) := by decide +kernel
theorem d_Maker_holds_5 : decode b_Maker_holds 5 = .ok (.aload_n 0, 1) := by decide +kernel
theorem d_Maker_holds_6 : decode b_Maker_holds 6 = .ok (.arraylength, 1) := by decide +kernel
theorem d_Maker_holds_7 : decode b_Maker_holds 7 = .ok (.if_icmp .ge 7, 3) := by decide +kernel
theorem d_Maker_holds_10 : decode b_Maker_holds 10 = .ok (.iconst 1, 1) := by decide +kernel
theorem d_Maker_holds_11 : decode b_Maker_holds 11 = .ok (.goto 4, 3) := by decide +kernel
theorem d_Maker_holds_14 : decode b_Maker_holds 14 = .ok (.iconst 0, 1) := by decide +kernel
theorem d_Maker_holds_15 : decode b_Maker_holds 15 = .ok (.ireturn, 1) := by decide +kernel
abbrev b_Maker_isMasked : ByteArray := prog_4_method_5_code
def y_Maker_isMasked : MethodName := ⟨"MaskLayers$Maker", "isMasked", "(I)Z"⟩
theorem d_Maker_isMasked_0 : decode b_Maker_isMasked 0 = .ok (.aload_n 0, 1) := by decide +kernel
theorem d_Maker_isMasked_1 : decode b_Maker_isMasked 1 = .ok (.getfield 19, 3) := by decide +kernel
theorem d_Maker_isMasked_4 : decode b_Maker_isMasked 4 = .ok (.iload_n 1, 1) := by decide +kernel
theorem d_Maker_isMasked_5 : decode b_Maker_isMasked 5 = .ok (.invokestatic 60, 3) := by decide +kernel
theorem d_Maker_isMasked_8 : decode b_Maker_isMasked 8 = .ok (.ifCond .eq 17, 3) := by decide +kernel
theorem d_Maker_isMasked_11 : decode b_Maker_isMasked 11 = .ok (.aload_n 0, 1) := by decide +kernel
theorem d_Maker_isMasked_12 : decode b_Maker_isMasked 12 = .ok (.getfield 19, 3) := by decide +kernel
theorem d_Maker_isMasked_15 : decode b_Maker_isMasked 15 = .ok (.iload_n 1, 1) := by decide +kernel
theorem d_Maker_isMasked_16 : decode b_Maker_isMasked 16 = .ok (.iaload, 1) := by decide +kernel
theorem d_Maker_isMasked_17 : decode b_Maker_isMasked 17 = .ok (.iconst 1, 1) := by decide +kernel
theorem d_Maker_isMasked_18 : decode b_Maker_isMasked 18 = .ok (.if_icmp .ne 7, 3) := by decide +kernel
theorem d_Maker_isMasked_21 : decode b_Maker_isMasked 21 = .ok (.iconst 1, 1) := by decide +kernel
theorem d_Maker_isMasked_22 : decode b_Maker_isMasked 22 = .ok (.goto 4, 3) := by decide +kernel
theorem d_Maker_isMasked_25 : decode b_Maker_isMasked 25 = .ok (.iconst 0, 1) := by decide +kernel
theorem d_Maker_isMasked_26 : decode b_Maker_isMasked 26 = .ok (.ireturn, 1) := by decide +kernel
abbrev b_Maker_colourAt : ByteArray := prog_4_method_6_code
def y_Maker_colourAt : MethodName := ⟨"MaskLayers$Maker", "colourAt", "(I)I"⟩
theorem d_Maker_colourAt_0 : decode b_Maker_colourAt 0 = .ok (.aload_n 0, 1) := by decide +kernel
theorem d_Maker_colourAt_1 : decode b_Maker_colourAt 1 = .ok (.getfield 15, 3) := by decide +kernel
theorem d_Maker_colourAt_4 : decode b_Maker_colourAt 4 = .ok (.iload_n 1, 1) := by decide +kernel
theorem d_Maker_colourAt_5 : decode b_Maker_colourAt 5 = .ok (.invokestatic 60, 3) := by decide +kernel
theorem d_Maker_colourAt_8 : decode b_Maker_colourAt 8 = .ok (.ifCond .eq 12, 3) := by decide +kernel
theorem d_Maker_colourAt_11 : decode b_Maker_colourAt 11 = .ok (.aload_n 0, 1) := by decide +kernel
theorem d_Maker_colourAt_12 : decode b_Maker_colourAt 12 = .ok (.getfield 15, 3) := by decide +kernel
theorem d_Maker_colourAt_15 : decode b_Maker_colourAt 15 = .ok (.iload_n 1, 1) := by decide +kernel
theorem d_Maker_colourAt_16 : decode b_Maker_colourAt 16 = .ok (.iaload, 1) := by decide +kernel
theorem d_Maker_colourAt_17 : decode b_Maker_colourAt 17 = .ok (.goto 4, 3) := by decide +kernel
theorem d_Maker_colourAt_20 : decode b_Maker_colourAt 20 = .ok (.iconst 0, 1) := by decide +kernel
theorem d_Maker_colourAt_21 : decode b_Maker_colourAt 21 = .ok (.ireturn, 1) := by decide +kernel
abbrev b_Maker_wasFilled : ByteArray := prog_4_method_3_code
def y_Maker_wasFilled : MethodName := ⟨"MaskLayers$Maker", "wasFilled", "(III)Z"⟩
theorem d_Maker_wasFilled_0 : decode b_Maker_wasFilled 0 = .ok (.aload_n 0, 1) := by decide +kernel
theorem d_Maker_wasFilled_1 : decode b_Maker_wasFilled 1 = .ok (.getfield 9, 3) := by decide +kernel
theorem d_Maker_wasFilled_4 : decode b_Maker_wasFilled 4 = .ok (.iload_n 1, 1) := by decide +kernel
theorem d_Maker_wasFilled_5 : decode b_Maker_wasFilled 5 = .ok (.iload_n 2, 1) := by decide +kernel
theorem d_Maker_wasFilled_6 : decode b_Maker_wasFilled 6 = .ok (.iload_n 3, 1) := by decide +kernel
theorem d_Maker_wasFilled_7 : decode b_Maker_wasFilled 7 = .ok (.invokevirtual 48, 3) := by decide +kernel
theorem d_Maker_wasFilled_10 : decode b_Maker_wasFilled 10 = .ok (.istore 4, 2) := by decide +kernel
theorem d_Maker_wasFilled_12 : decode b_Maker_wasFilled 12 = .ok (.aload_n 0, 1) := by decide +kernel
theorem d_Maker_wasFilled_13 : decode b_Maker_wasFilled 13 = .ok (.getfield 9, 3) := by decide +kernel
theorem d_Maker_wasFilled_16 : decode b_Maker_wasFilled 16 = .ok (.aload_n 0, 1) := by decide +kernel
theorem d_Maker_wasFilled_17 : decode b_Maker_wasFilled 17 = .ok (.getfield 9, 3) := by decide +kernel
theorem d_Maker_wasFilled_20 : decode b_Maker_wasFilled 20 = .ok (.iload_n 3, 1) := by decide +kernel
theorem d_Maker_wasFilled_21 : decode b_Maker_wasFilled 21 = .ok (.invokevirtual 52, 3) := by decide +kernel
theorem d_Maker_wasFilled_24 : decode b_Maker_wasFilled 24 = .ok (.iload_n 1, 1) := by decide +kernel
theorem d_Maker_wasFilled_25 : decode b_Maker_wasFilled 25 = .ok (.invokevirtual 56, 3) := by decide +kernel
theorem d_Maker_wasFilled_28 : decode b_Maker_wasFilled 28 = .ok (.ifCond .eq 34, 3) := by decide +kernel
theorem d_Maker_wasFilled_31 : decode b_Maker_wasFilled 31 = .ok (.aload_n 0, 1) := by decide +kernel
theorem d_Maker_wasFilled_32 : decode b_Maker_wasFilled 32 = .ok (.getfield 22, 3) := by decide +kernel
theorem d_Maker_wasFilled_35 : decode b_Maker_wasFilled 35 = .ok (.iload 4, 2) := by decide +kernel
theorem d_Maker_wasFilled_37 : decode b_Maker_wasFilled 37 = .ok (.invokestatic 60, 3) := by decide +kernel
theorem d_Maker_wasFilled_40 : decode b_Maker_wasFilled 40 = .ok (.ifCond .eq 22, 3) := by decide +kernel
theorem d_Maker_wasFilled_43 : decode b_Maker_wasFilled 43 = .ok (.aload_n 0, 1) := by decide +kernel
theorem d_Maker_wasFilled_44 : decode b_Maker_wasFilled 44 = .ok (.getfield 22, 3) := by decide +kernel
theorem d_Maker_wasFilled_47 : decode b_Maker_wasFilled 47 = .ok (.iload 4, 2) := by decide +kernel
theorem d_Maker_wasFilled_49 : decode b_Maker_wasFilled 49 = .ok (.iaload, 1) := by decide +kernel
theorem d_Maker_wasFilled_50 : decode b_Maker_wasFilled 50 = .ok (.iload_n 1, 1) := by decide +kernel
theorem d_Maker_wasFilled_51 : decode b_Maker_wasFilled 51 = .ok (.ishr, 1) := by decide +kernel
theorem d_Maker_wasFilled_52 : decode b_Maker_wasFilled 52 = .ok (.iconst 1, 1) := by decide +kernel
theorem d_Maker_wasFilled_53 : decode b_Maker_wasFilled 53 = .ok (.iand, 1) := by decide +kernel
theorem d_Maker_wasFilled_54 : decode b_Maker_wasFilled 54 = .ok (.iconst 1, 1) := by decide +kernel
theorem d_Maker_wasFilled_55 : decode b_Maker_wasFilled 55 = .ok (.if_icmp .ne 7, 3) := by decide +kernel
theorem d_Maker_wasFilled_58 : decode b_Maker_wasFilled 58 = .ok (.iconst 1, 1) := by decide +kernel
theorem d_Maker_wasFilled_59 : decode b_Maker_wasFilled 59 = .ok (.goto 4, 3) := by decide +kernel
theorem d_Maker_wasFilled_62 : decode b_Maker_wasFilled 62 = .ok (.iconst 0, 1) := by decide +kernel
theorem d_Maker_wasFilled_63 : decode b_Maker_wasFilled 63 = .ok (.ireturn, 1) := by decide +kernel
abbrev b_Maker_meanOfBlock : ByteArray := prog_4_method_10_code
def y_Maker_meanOfBlock : MethodName := ⟨"MaskLayers$Maker", "meanOfBlock", "(IIII)I"⟩
theorem d_Maker_meanOfBlock_0 : decode b_Maker_meanOfBlock 0 = .ok (.aload_n 0, 1) := by decide +kernel
theorem d_Maker_meanOfBlock_1 : decode b_Maker_meanOfBlock 1 = .ok (.getfield 9, 3) := by decide +kernel
theorem d_Maker_meanOfBlock_4 : decode b_Maker_meanOfBlock 4 = .ok (.iload_n 2, 1) := by decide +kernel
theorem d_Maker_meanOfBlock_5 : decode b_Maker_meanOfBlock 5 = .ok (.invokevirtual 105, 3) := by decide +kernel
theorem d_Maker_meanOfBlock_8 : decode b_Maker_meanOfBlock 8 = .ok (.istore 5, 2) := by decide +kernel
theorem d_Maker_meanOfBlock_10 : decode b_Maker_meanOfBlock 10 = .ok (.aload_n 0, 1) := by decide +kernel
theorem d_Maker_meanOfBlock_11 : decode b_Maker_meanOfBlock 11 = .ok (.getfield 9, 3) := by decide +kernel
theorem d_Maker_meanOfBlock_14 : decode b_Maker_meanOfBlock 14 = .ok (.iload_n 1, 1) := by decide +kernel
theorem d_Maker_meanOfBlock_15 : decode b_Maker_meanOfBlock 15 = .ok (.invokevirtual 108, 3) := by decide +kernel
theorem d_Maker_meanOfBlock_18 : decode b_Maker_meanOfBlock 18 = .ok (.iload 4, 2) := by decide +kernel
theorem d_Maker_meanOfBlock_20 : decode b_Maker_meanOfBlock 20 = .ok (.iload 5, 2) := by decide +kernel
theorem d_Maker_meanOfBlock_22 : decode b_Maker_meanOfBlock 22 = .ok (.imul, 1) := by decide +kernel
theorem d_Maker_meanOfBlock_23 : decode b_Maker_meanOfBlock 23 = .ok (.iadd, 1) := by decide +kernel
theorem d_Maker_meanOfBlock_24 : decode b_Maker_meanOfBlock 24 = .ok (.istore 6, 2) := by decide +kernel
theorem d_Maker_meanOfBlock_26 : decode b_Maker_meanOfBlock 26 = .ok (.iload 6, 2) := by decide +kernel
theorem d_Maker_meanOfBlock_28 : decode b_Maker_meanOfBlock 28 = .ok (.iload 5, 2) := by decide +kernel
theorem d_Maker_meanOfBlock_30 : decode b_Maker_meanOfBlock 30 = .ok (.iadd, 1) := by decide +kernel
theorem d_Maker_meanOfBlock_31 : decode b_Maker_meanOfBlock 31 = .ok (.aload_n 0, 1) := by decide +kernel
theorem d_Maker_meanOfBlock_32 : decode b_Maker_meanOfBlock 32 = .ok (.getfield 9, 3) := by decide +kernel
theorem d_Maker_meanOfBlock_35 : decode b_Maker_meanOfBlock 35 = .ok (.iload_n 1, 1) := by decide +kernel
theorem d_Maker_meanOfBlock_36 : decode b_Maker_meanOfBlock 36 = .ok (.invokevirtual 111, 3) := by decide +kernel
theorem d_Maker_meanOfBlock_39 : decode b_Maker_meanOfBlock 39 = .ok (.invokestatic 114, 3) := by decide +kernel
theorem d_Maker_meanOfBlock_42 : decode b_Maker_meanOfBlock 42 = .ok (.istore 7, 2) := by decide +kernel
theorem d_Maker_meanOfBlock_44 : decode b_Maker_meanOfBlock 44 = .ok (.iload_n 3, 1) := by decide +kernel
theorem d_Maker_meanOfBlock_45 : decode b_Maker_meanOfBlock 45 = .ok (.iload 5, 2) := by decide +kernel
theorem d_Maker_meanOfBlock_47 : decode b_Maker_meanOfBlock 47 = .ok (.imul, 1) := by decide +kernel
theorem d_Maker_meanOfBlock_48 : decode b_Maker_meanOfBlock 48 = .ok (.istore 8, 2) := by decide +kernel
theorem d_Maker_meanOfBlock_50 : decode b_Maker_meanOfBlock 50 = .ok (.iload 8, 2) := by decide +kernel
theorem d_Maker_meanOfBlock_52 : decode b_Maker_meanOfBlock 52 = .ok (.iload 5, 2) := by decide +kernel
theorem d_Maker_meanOfBlock_54 : decode b_Maker_meanOfBlock 54 = .ok (.iadd, 1) := by decide +kernel
theorem d_Maker_meanOfBlock_55 : decode b_Maker_meanOfBlock 55 = .ok (.aload_n 0, 1) := by decide +kernel
theorem d_Maker_meanOfBlock_56 : decode b_Maker_meanOfBlock 56 = .ok (.getfield 9, 3) := by decide +kernel
theorem d_Maker_meanOfBlock_59 : decode b_Maker_meanOfBlock 59 = .ok (.getfield 119, 3) := by decide +kernel
theorem d_Maker_meanOfBlock_62 : decode b_Maker_meanOfBlock 62 = .ok (.invokestatic 114, 3) := by decide +kernel
theorem d_Maker_meanOfBlock_65 : decode b_Maker_meanOfBlock 65 = .ok (.istore 9, 2) := by decide +kernel
theorem d_Maker_meanOfBlock_67 : decode b_Maker_meanOfBlock 67 = .ok (.iconst 0, 1) := by decide +kernel
theorem d_Maker_meanOfBlock_68 : decode b_Maker_meanOfBlock 68 = .ok (.istore 10, 2) := by decide +kernel
theorem d_Maker_meanOfBlock_70 : decode b_Maker_meanOfBlock 70 = .ok (.iconst 0, 1) := by decide +kernel
theorem d_Maker_meanOfBlock_71 : decode b_Maker_meanOfBlock 71 = .ok (.istore 11, 2) := by decide +kernel
theorem d_Maker_meanOfBlock_73 : decode b_Maker_meanOfBlock 73 = .ok (.iconst 0, 1) := by decide +kernel
theorem d_Maker_meanOfBlock_74 : decode b_Maker_meanOfBlock 74 = .ok (.istore 12, 2) := by decide +kernel
theorem d_Maker_meanOfBlock_76 : decode b_Maker_meanOfBlock 76 = .ok (.iconst 0, 1) := by decide +kernel
theorem d_Maker_meanOfBlock_77 : decode b_Maker_meanOfBlock 77 = .ok (.istore 13, 2) := by decide +kernel
theorem d_Maker_meanOfBlock_79 : decode b_Maker_meanOfBlock 79 = .ok (.iload 6, 2) := by decide +kernel
theorem d_Maker_meanOfBlock_81 : decode b_Maker_meanOfBlock 81 = .ok (.istore 14, 2) := by decide +kernel
theorem d_Maker_meanOfBlock_83 : decode b_Maker_meanOfBlock 83 = .ok (.iload 14, 2) := by decide +kernel
theorem d_Maker_meanOfBlock_85 : decode b_Maker_meanOfBlock 85 = .ok (.iload 7, 2) := by decide +kernel
theorem d_Maker_meanOfBlock_87 : decode b_Maker_meanOfBlock 87 = .ok (.if_icmp .ge 101, 3) := by decide +kernel
theorem d_Maker_meanOfBlock_90 : decode b_Maker_meanOfBlock 90 = .ok (.iload 8, 2) := by decide +kernel
theorem d_Maker_meanOfBlock_92 : decode b_Maker_meanOfBlock 92 = .ok (.istore 15, 2) := by decide +kernel
theorem d_Maker_meanOfBlock_94 : decode b_Maker_meanOfBlock 94 = .ok (.iload 15, 2) := by decide +kernel
theorem d_Maker_meanOfBlock_96 : decode b_Maker_meanOfBlock 96 = .ok (.iload 9, 2) := by decide +kernel
theorem d_Maker_meanOfBlock_98 : decode b_Maker_meanOfBlock 98 = .ok (.if_icmp .ge 84, 3) := by decide +kernel
theorem d_Maker_meanOfBlock_101 : decode b_Maker_meanOfBlock 101 = .ok (.iload 14, 2) := by decide +kernel
theorem d_Maker_meanOfBlock_103 : decode b_Maker_meanOfBlock 103 = .ok (.aload_n 0, 1) := by decide +kernel
theorem d_Maker_meanOfBlock_104 : decode b_Maker_meanOfBlock 104 = .ok (.getfield 9, 3) := by decide +kernel
theorem d_Maker_meanOfBlock_107 : decode b_Maker_meanOfBlock 107 = .ok (.getfield 119, 3) := by decide +kernel
theorem d_Maker_meanOfBlock_110 : decode b_Maker_meanOfBlock 110 = .ok (.imul, 1) := by decide +kernel
theorem d_Maker_meanOfBlock_111 : decode b_Maker_meanOfBlock 111 = .ok (.iload 15, 2) := by decide +kernel
theorem d_Maker_meanOfBlock_113 : decode b_Maker_meanOfBlock 113 = .ok (.iadd, 1) := by decide +kernel
theorem d_Maker_meanOfBlock_114 : decode b_Maker_meanOfBlock 114 = .ok (.istore 16, 2) := by decide +kernel
theorem d_Maker_meanOfBlock_116 : decode b_Maker_meanOfBlock 116 = .ok (.aload_n 0, 1) := by decide +kernel
theorem d_Maker_meanOfBlock_117 : decode b_Maker_meanOfBlock 117 = .ok (.iload 16, 2) := by decide +kernel
theorem d_Maker_meanOfBlock_119 : decode b_Maker_meanOfBlock 119 = .ok (.invokevirtual 89, 3) := by decide +kernel
theorem d_Maker_meanOfBlock_122 : decode b_Maker_meanOfBlock 122 = .ok (.iload_n 2, 1) := by decide +kernel
theorem d_Maker_meanOfBlock_123 : decode b_Maker_meanOfBlock 123 = .ok (.iconst 2, 1) := by decide +kernel
theorem d_Maker_meanOfBlock_124 : decode b_Maker_meanOfBlock 124 = .ok (.if_icmp .ne 7, 3) := by decide +kernel
theorem d_Maker_meanOfBlock_127 : decode b_Maker_meanOfBlock 127 = .ok (.iconst 1, 1) := by decide +kernel
theorem d_Maker_meanOfBlock_128 : decode b_Maker_meanOfBlock 128 = .ok (.goto 4, 3) := by decide +kernel
theorem d_Maker_meanOfBlock_131 : decode b_Maker_meanOfBlock 131 = .ok (.iconst 0, 1) := by decide +kernel
theorem d_Maker_meanOfBlock_132 : decode b_Maker_meanOfBlock 132 = .ok (.if_icmp .ne 44, 3) := by decide +kernel
theorem d_Maker_meanOfBlock_135 : decode b_Maker_meanOfBlock 135 = .ok (.aload_n 0, 1) := by decide +kernel
theorem d_Maker_meanOfBlock_136 : decode b_Maker_meanOfBlock 136 = .ok (.iload 16, 2) := by decide +kernel
theorem d_Maker_meanOfBlock_138 : decode b_Maker_meanOfBlock 138 = .ok (.invokevirtual 122, 3) := by decide +kernel
theorem d_Maker_meanOfBlock_141 : decode b_Maker_meanOfBlock 141 = .ok (.istore 17, 2) := by decide +kernel
theorem d_Maker_meanOfBlock_143 : decode b_Maker_meanOfBlock 143 = .ok (.iinc 10 1, 3) := by decide +kernel
theorem d_Maker_meanOfBlock_146 : decode b_Maker_meanOfBlock 146 = .ok (.iload 11, 2) := by decide +kernel
theorem d_Maker_meanOfBlock_148 : decode b_Maker_meanOfBlock 148 = .ok (.iload 17, 2) := by decide +kernel
theorem d_Maker_meanOfBlock_150 : decode b_Maker_meanOfBlock 150 = .ok (.invokestatic 125, 3) := by decide +kernel
theorem d_Maker_meanOfBlock_153 : decode b_Maker_meanOfBlock 153 = .ok (.iadd, 1) := by decide +kernel
theorem d_Maker_meanOfBlock_154 : decode b_Maker_meanOfBlock 154 = .ok (.istore 11, 2) := by decide +kernel
theorem d_Maker_meanOfBlock_156 : decode b_Maker_meanOfBlock 156 = .ok (.iload 12, 2) := by decide +kernel
theorem d_Maker_meanOfBlock_158 : decode b_Maker_meanOfBlock 158 = .ok (.iload 17, 2) := by decide +kernel
theorem d_Maker_meanOfBlock_160 : decode b_Maker_meanOfBlock 160 = .ok (.invokestatic 128, 3) := by decide +kernel
theorem d_Maker_meanOfBlock_163 : decode b_Maker_meanOfBlock 163 = .ok (.iadd, 1) := by decide +kernel
theorem d_Maker_meanOfBlock_164 : decode b_Maker_meanOfBlock 164 = .ok (.istore 12, 2) := by decide +kernel
theorem d_Maker_meanOfBlock_166 : decode b_Maker_meanOfBlock 166 = .ok (.iload 13, 2) := by decide +kernel
theorem d_Maker_meanOfBlock_168 : decode b_Maker_meanOfBlock 168 = .ok (.iload 17, 2) := by decide +kernel
theorem d_Maker_meanOfBlock_170 : decode b_Maker_meanOfBlock 170 = .ok (.invokestatic 131, 3) := by decide +kernel
theorem d_Maker_meanOfBlock_173 : decode b_Maker_meanOfBlock 173 = .ok (.iadd, 1) := by decide +kernel
theorem d_Maker_meanOfBlock_174 : decode b_Maker_meanOfBlock 174 = .ok (.istore 13, 2) := by decide +kernel
theorem d_Maker_meanOfBlock_176 : decode b_Maker_meanOfBlock 176 = .ok (.iinc 15 1, 3) := by decide +kernel
theorem d_Maker_meanOfBlock_179 : decode b_Maker_meanOfBlock 179 = .ok (.goto (-85), 3) := by decide +kernel
theorem d_Maker_meanOfBlock_182 : decode b_Maker_meanOfBlock 182 = .ok (.iinc 14 1, 3) := by decide +kernel
theorem d_Maker_meanOfBlock_185 : decode b_Maker_meanOfBlock 185 = .ok (.goto (-102), 3) := by decide +kernel
theorem d_Maker_meanOfBlock_188 : decode b_Maker_meanOfBlock 188 = .ok (.iload 10, 2) := by decide +kernel
theorem d_Maker_meanOfBlock_190 : decode b_Maker_meanOfBlock 190 = .ok (.ifCond .ne 7, 3) := by decide +kernel
theorem d_Maker_meanOfBlock_193 : decode b_Maker_meanOfBlock 193 = .ok (.iconst (-1), 1) := by decide +kernel
theorem d_Maker_meanOfBlock_194 : decode b_Maker_meanOfBlock 194 = .ok (.goto 27, 3) := by decide +kernel
theorem d_Maker_meanOfBlock_197 : decode b_Maker_meanOfBlock 197 = .ok (.iload 11, 2) := by decide +kernel
theorem d_Maker_meanOfBlock_199 : decode b_Maker_meanOfBlock 199 = .ok (.iload 10, 2) := by decide +kernel
