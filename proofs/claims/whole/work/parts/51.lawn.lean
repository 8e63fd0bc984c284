abbrev b_Law_put : ByteArray := method_3_code
def y_Law_put : MethodName := ⟨"MaskLayersLaw", "put", "(LMaskLayers;IIII[J)I"⟩
theorem d_Law_put_0 : decode b_Law_put 0 = .ok (.aload 5, 2) := by decide +kernel
theorem d_Law_put_2 : decode b_Law_put 2 = .ok (.iconst 0, 1) := by decide +kernel
theorem d_Law_put_3 : decode b_Law_put 3 = .ok (.aload_n 0, 1) := by decide +kernel
theorem d_Law_put_4 : decode b_Law_put 4 = .ok (.iload_n 1, 1) := by decide +kernel
theorem d_Law_put_5 : decode b_Law_put 5 = .ok (.iload_n 2, 1) := by decide +kernel
theorem d_Law_put_6 : decode b_Law_put 6 = .ok (.iload_n 3, 1) := by decide +kernel
theorem d_Law_put_7 : decode b_Law_put 7 = .ok (.iload 4, 2) := by decide +kernel
theorem d_Law_put_9 : decode b_Law_put 9 = .ok (.invokevirtual 7, 3) := by decide +kernel
theorem d_Law_put_12 : decode b_Law_put 12 = .ok (.i2l, 1) := by decide +kernel
theorem d_Law_put_13 : decode b_Law_put 13 = .ok (.lastore, 1) := by decide +kernel
theorem d_Law_put_14 : decode b_Law_put 14 = .ok (.goto 11, 3) := by decide +kernel
theorem d_Law_put_17 : decode b_Law_put 17 = .ok (.astore 6, 2) := by decide +kernel
theorem d_Law_put_19 : decode b_Law_put 19 = .ok (.iconst 1, 1) := by decide +kernel
theorem d_Law_put_20 : decode b_Law_put 20 = .ok (.ireturn, 1) := by decide +kernel
theorem d_Law_put_21 : decode b_Law_put 21 = .ok (.astore 6, 2) := by decide +kernel
theorem d_Law_put_23 : decode b_Law_put 23 = .ok (.iconst 2, 1) := by decide +kernel
theorem d_Law_put_24 : decode b_Law_put 24 = .ok (.ireturn, 1) := by decide +kernel
theorem d_Law_put_25 : decode b_Law_put 25 = .ok (.iconst 0, 1) := by decide +kernel
theorem d_Law_put_26 : decode b_Law_put 26 = .ok (.ireturn, 1) := by decide +kernel
theorem m_Law_put : Cond.codeWith y_Law_put b_Law_put 7 (some .int) [(0, 14, 17, 13), (0, 14, 21, 15)] ∈ BIG := mb (List.mem_of_getElem? (i := 402) (by decide +kernel)) rfl
abbrev b_Law_mask : ByteArray := method_4_code
def y_Law_mask : MethodName := ⟨"MaskLayersLaw", "mask", "(LMaskLayers;IIIZ[J)I"⟩
theorem d_Law_mask_0 : decode b_Law_mask 0 = .ok (.aload 5, 2) := by decide +kernel
theorem d_Law_mask_2 : decode b_Law_mask 2 = .ok (.iconst 0, 1) := by decide +kernel
theorem d_Law_mask_3 : decode b_Law_mask 3 = .ok (.aload_n 0, 1) := by decide +kernel
theorem d_Law_mask_4 : decode b_Law_mask 4 = .ok (.iload_n 1, 1) := by decide +kernel
theorem d_Law_mask_5 : decode b_Law_mask 5 = .ok (.iload_n 2, 1) := by decide +kernel
theorem d_Law_mask_6 : decode b_Law_mask 6 = .ok (.iload_n 3, 1) := by decide +kernel
theorem d_Law_mask_7 : decode b_Law_mask 7 = .ok (.iload 4, 2) := by decide +kernel
theorem d_Law_mask_9 : decode b_Law_mask 9 = .ok (.invokevirtual 17, 3) := by decide +kernel
theorem d_Law_mask_12 : decode b_Law_mask 12 = .ok (.i2l, 1) := by decide +kernel
theorem d_Law_mask_13 : decode b_Law_mask 13 = .ok (.lastore, 1) := by decide +kernel
theorem d_Law_mask_14 : decode b_Law_mask 14 = .ok (.goto 11, 3) := by decide +kernel
theorem d_Law_mask_17 : decode b_Law_mask 17 = .ok (.astore 6, 2) := by decide +kernel
theorem d_Law_mask_19 : decode b_Law_mask 19 = .ok (.iconst 1, 1) := by decide +kernel
theorem d_Law_mask_20 : decode b_Law_mask 20 = .ok (.ireturn, 1) := by decide +kernel
theorem d_Law_mask_21 : decode b_Law_mask 21 = .ok (.astore 6, 2) := by decide +kernel
theorem d_Law_mask_23 : decode b_Law_mask 23 = .ok (.iconst 2, 1) := by decide +kernel
theorem d_Law_mask_24 : decode b_Law_mask 24 = .ok (.ireturn, 1) := by decide +kernel
theorem d_Law_mask_25 : decode b_Law_mask 25 = .ok (.iconst 0, 1) := by decide +kernel
theorem d_Law_mask_26 : decode b_Law_mask 26 = .ok (.ireturn, 1) := by decide +kernel
theorem m_Law_mask : Cond.codeWith y_Law_mask b_Law_mask 7 (some .int) [(0, 14, 17, 13), (0, 14, 21, 15)] ∈ BIG := mb (List.mem_of_getElem? (i := 505) (by decide +kernel)) rfl
abbrev b_Law_stripe : ByteArray := method_5_code
def y_Law_stripe : MethodName := ⟨"MaskLayersLaw", "stripe", "(LMaskLayers;I[J)I"⟩
theorem d_Law_stripe_0 : decode b_Law_stripe 0 = .ok (.aload_n 2, 1) := by decide +kernel
theorem d_Law_stripe_1 : decode b_Law_stripe 1 = .ok (.iconst 0, 1) := by decide +kernel
theorem d_Law_stripe_2 : decode b_Law_stripe 2 = .ok (.aload_n 0, 1) := by decide +kernel
theorem d_Law_stripe_3 : decode b_Law_stripe 3 = .ok (.iload_n 1, 1) := by decide +kernel
theorem d_Law_stripe_4 : decode b_Law_stripe 4 = .ok (.invokevirtual 21, 3) := by decide +kernel
theorem d_Law_stripe_7 : decode b_Law_stripe 7 = .ok (.i2l, 1) := by decide +kernel
theorem d_Law_stripe_8 : decode b_Law_stripe 8 = .ok (.lastore, 1) := by decide +kernel
theorem d_Law_stripe_9 : decode b_Law_stripe 9 = .ok (.goto 6, 3) := by decide +kernel
theorem d_Law_stripe_12 : decode b_Law_stripe 12 = .ok (.astore_n 3, 1) := by decide +kernel
theorem d_Law_stripe_13 : decode b_Law_stripe 13 = .ok (.iconst 1, 1) := by decide +kernel
theorem d_Law_stripe_14 : decode b_Law_stripe 14 = .ok (.ireturn, 1) := by decide +kernel
theorem d_Law_stripe_15 : decode b_Law_stripe 15 = .ok (.iconst 0, 1) := by decide +kernel
theorem d_Law_stripe_16 : decode b_Law_stripe 16 = .ok (.ireturn, 1) := by decide +kernel
theorem m_Law_stripe : Cond.codeWith y_Law_stripe b_Law_stripe 4 (some .int) [(0, 9, 12, 15)] ∈ BIG := mb (List.mem_of_getElem? (i := 513) (by decide +kernel)) rfl
abbrev b_Law_run : ByteArray := method_6_code
def y_Law_run : MethodName := ⟨"MaskLayersLaw", "run", "(LMaskLayers;IIZ[J)I"⟩
theorem d_Law_run_0 : decode b_Law_run 0 = .ok (.aload 4, 2) := by decide +kernel
theorem d_Law_run_2 : decode b_Law_run 2 = .ok (.iconst 0, 1) := by decide +kernel
theorem d_Law_run_3 : decode b_Law_run 3 = .ok (.aload_n 0, 1) := by decide +kernel
theorem d_Law_run_4 : decode b_Law_run 4 = .ok (.iload_n 1, 1) := by decide +kernel
theorem d_Law_run_5 : decode b_Law_run 5 = .ok (.iload_n 2, 1) := by decide +kernel
theorem d_Law_run_6 : decode b_Law_run 6 = .ok (.iload_n 3, 1) := by decide +kernel
theorem d_Law_run_7 : decode b_Law_run 7 = .ok (.invokevirtual 25, 3) := by decide +kernel
theorem d_Law_run_10 : decode b_Law_run 10 = .ok (.i2l, 1) := by decide +kernel
theorem d_Law_run_11 : decode b_Law_run 11 = .ok (.lastore, 1) := by decide +kernel
theorem d_Law_run_12 : decode b_Law_run 12 = .ok (.goto 7, 3) := by decide +kernel
theorem d_Law_run_15 : decode b_Law_run 15 = .ok (.astore 5, 2) := by decide +kernel
theorem d_Law_run_17 : decode b_Law_run 17 = .ok (.iconst 1, 1) := by decide +kernel
theorem d_Law_run_18 : decode b_Law_run 18 = .ok (.ireturn, 1) := by decide +kernel
theorem d_Law_run_19 : decode b_Law_run 19 = .ok (.iconst 0, 1) := by decide +kernel
theorem d_Law_run_20 : decode b_Law_run 20 = .ok (.ireturn, 1) := by decide +kernel
theorem m_Law_run : Cond.codeWith y_Law_run b_Law_run 6 (some .int) [(0, 12, 15, 15)] ∈ BIG := mb (List.mem_of_getElem? (i := 521) (by decide +kernel)) rfl
abbrev b_Law_layer : ByteArray := method_7_code
def y_Law_layer : MethodName := ⟨"MaskLayersLaw", "layer", "(LMaskLayers;III[J)I"⟩
theorem d_Law_layer_0 : decode b_Law_layer 0 = .ok (.aload 4, 2) := by decide +kernel
theorem d_Law_layer_2 : decode b_Law_layer 2 = .ok (.iconst 0, 1) := by decide +kernel
theorem d_Law_layer_3 : decode b_Law_layer 3 = .ok (.aload_n 0, 1) := by decide +kernel
theorem d_Law_layer_4 : decode b_Law_layer 4 = .ok (.iload_n 1, 1) := by decide +kernel
theorem d_Law_layer_5 : decode b_Law_layer 5 = .ok (.iload_n 2, 1) := by decide +kernel
theorem d_Law_layer_6 : decode b_Law_layer 6 = .ok (.iload_n 3, 1) := by decide +kernel
theorem d_Law_layer_7 : decode b_Law_layer 7 = .ok (.invokevirtual 29, 3) := by decide +kernel
theorem d_Law_layer_10 : decode b_Law_layer 10 = .ok (.i2l, 1) := by decide +kernel
theorem d_Law_layer_11 : decode b_Law_layer 11 = .ok (.lastore, 1) := by decide +kernel
theorem d_Law_layer_12 : decode b_Law_layer 12 = .ok (.goto 15, 3) := by decide +kernel
theorem d_Law_layer_15 : decode b_Law_layer 15 = .ok (.astore 5, 2) := by decide +kernel
theorem d_Law_layer_17 : decode b_Law_layer 17 = .ok (.iconst 1, 1) := by decide +kernel
theorem d_Law_layer_18 : decode b_Law_layer 18 = .ok (.ireturn, 1) := by decide +kernel
theorem d_Law_layer_19 : decode b_Law_layer 19 = .ok (.astore 5, 2) := by decide +kernel
theorem d_Law_layer_21 : decode b_Law_layer 21 = .ok (.iconst 2, 1) := by decide +kernel
theorem d_Law_layer_22 : decode b_Law_layer 22 = .ok (.ireturn, 1) := by decide +kernel
theorem d_Law_layer_23 : decode b_Law_layer 23 = .ok (.astore 5, 2) := by decide +kernel
theorem d_Law_layer_25 : decode b_Law_layer 25 = .ok (.iconst 3, 1) := by decide +kernel
theorem d_Law_layer_26 : decode b_Law_layer 26 = .ok (.ireturn, 1) := by decide +kernel
theorem d_Law_layer_27 : decode b_Law_layer 27 = .ok (.iconst 0, 1) := by decide +kernel
theorem d_Law_layer_28 : decode b_Law_layer 28 = .ok (.ireturn, 1) := by decide +kernel
theorem m_Law_layer : Cond.codeWith y_Law_layer b_Law_layer 6 (some .int) [(0, 12, 15, 33), (0, 12, 19, 13), (0, 12, 23, 15)] ∈ BIG := mb (List.mem_of_getElem? (i := 620) (by decide +kernel)) rfl
abbrev b_Law_filled : ByteArray := method_8_code
def y_Law_filled : MethodName := ⟨"MaskLayersLaw", "filled", "(LMaskLayers;III[J)I"⟩
theorem d_Law_filled_0 : decode b_Law_filled 0 = .ok (.aload 4, 2) := by decide +kernel
theorem d_Law_filled_2 : decode b_Law_filled 2 = .ok (.iconst 0, 1) := by decide +kernel
theorem d_Law_filled_3 : decode b_Law_filled 3 = .ok (.aload_n 0, 1) := by decide +kernel
theorem d_Law_filled_4 : decode b_Law_filled 4 = .ok (.iload_n 1, 1) := by decide +kernel
theorem d_Law_filled_5 : decode b_Law_filled 5 = .ok (.iload_n 2, 1) := by decide +kernel
theorem d_Law_filled_6 : decode b_Law_filled 6 = .ok (.iload_n 3, 1) := by decide +kernel
theorem d_Law_filled_7 : decode b_Law_filled 7 = .ok (.invokevirtual 35, 3) := by decide +kernel
theorem d_Law_filled_10 : decode b_Law_filled 10 = .ok (.ifCond .eq 7, 3) := by decide +kernel
theorem d_Law_filled_13 : decode b_Law_filled 13 = .ok (.lconst 1, 1) := by decide +kernel
theorem d_Law_filled_14 : decode b_Law_filled 14 = .ok (.goto 4, 3) := by decide +kernel
theorem d_Law_filled_17 : decode b_Law_filled 17 = .ok (.lconst 0, 1) := by decide +kernel
theorem d_Law_filled_18 : decode b_Law_filled 18 = .ok (.lastore, 1) := by decide +kernel
theorem d_Law_filled_19 : decode b_Law_filled 19 = .ok (.goto 15, 3) := by decide +kernel
theorem d_Law_filled_22 : decode b_Law_filled 22 = .ok (.astore 5, 2) := by decide +kernel
theorem d_Law_filled_24 : decode b_Law_filled 24 = .ok (.iconst 1, 1) := by decide +kernel
theorem d_Law_filled_25 : decode b_Law_filled 25 = .ok (.ireturn, 1) := by decide +kernel
theorem d_Law_filled_26 : decode b_Law_filled 26 = .ok (.astore 5, 2) := by decide +kernel
theorem d_Law_filled_28 : decode b_Law_filled 28 = .ok (.iconst 2, 1) := by decide +kernel
theorem d_Law_filled_29 : decode b_Law_filled 29 = .ok (.ireturn, 1) := by decide +kernel
theorem d_Law_filled_30 : decode b_Law_filled 30 = .ok (.astore 5, 2) := by decide +kernel
theorem d_Law_filled_32 : decode b_Law_filled 32 = .ok (.iconst 3, 1) := by decide +kernel
theorem d_Law_filled_33 : decode b_Law_filled 33 = .ok (.ireturn, 1) := by decide +kernel
theorem d_Law_filled_34 : decode b_Law_filled 34 = .ok (.iconst 0, 1) := by decide +kernel
theorem d_Law_filled_35 : decode b_Law_filled 35 = .ok (.ireturn, 1) := by decide +kernel
theorem m_Law_filled : Cond.codeWith y_Law_filled b_Law_filled 6 (some .int) [(0, 19, 22, 33), (0, 19, 26, 13), (0, 19, 30, 15)] ∈ BIG := mb (List.mem_of_getElem? (i := 656) (by decide +kernel)) rfl
abbrev b_Law_joined : ByteArray := method_9_code
def y_Law_joined : MethodName := ⟨"MaskLayersLaw", "joined", "(LMaskLayers;II[J)I"⟩
theorem d_Law_joined_0 : decode b_Law_joined 0 = .ok (.aload_n 3, 1) := by decide +kernel
theorem d_Law_joined_1 : decode b_Law_joined 1 = .ok (.iconst 0, 1) := by decide +kernel
theorem d_Law_joined_2 : decode b_Law_joined 2 = .ok (.aload_n 0, 1) := by decide +kernel
theorem d_Law_joined_3 : decode b_Law_joined 3 = .ok (.iload_n 1, 1) := by decide +kernel
theorem d_Law_joined_4 : decode b_Law_joined 4 = .ok (.iload_n 2, 1) := by decide +kernel
theorem d_Law_joined_5 : decode b_Law_joined 5 = .ok (.invokevirtual 39, 3) := by decide +kernel
theorem d_Law_joined_8 : decode b_Law_joined 8 = .ok (.i2l, 1) := by decide +kernel
theorem d_Law_joined_9 : decode b_Law_joined 9 = .ok (.lastore, 1) := by decide +kernel
theorem d_Law_joined_10 : decode b_Law_joined 10 = .ok (.goto 11, 3) := by decide +kernel
theorem d_Law_joined_13 : decode b_Law_joined 13 = .ok (.astore 4, 2) := by decide +kernel
theorem d_Law_joined_15 : decode b_Law_joined 15 = .ok (.iconst 1, 1) := by decide +kernel
theorem d_Law_joined_16 : decode b_Law_joined 16 = .ok (.ireturn, 1) := by decide +kernel
theorem d_Law_joined_17 : decode b_Law_joined 17 = .ok (.astore 4, 2) := by decide +kernel
theorem d_Law_joined_19 : decode b_Law_joined 19 = .ok (.iconst 2, 1) := by decide +kernel
theorem d_Law_joined_20 : decode b_Law_joined 20 = .ok (.ireturn, 1) := by decide +kernel
theorem d_Law_joined_21 : decode b_Law_joined 21 = .ok (.iconst 0, 1) := by decide +kernel
theorem d_Law_joined_22 : decode b_Law_joined 22 = .ok (.ireturn, 1) := by decide +kernel
theorem m_Law_joined : Cond.codeWith y_Law_joined b_Law_joined 5 (some .int) [(0, 10, 13, 33), (0, 10, 17, 13)] ∈ BIG := mb (List.mem_of_getElem? (i := 670) (by decide +kernel)) rfl
abbrev b_Law_write : ByteArray := method_10_code
def y_Law_write : MethodName := ⟨"MaskLayersLaw", "write", "(LMaskLayers;[J)I"⟩
theorem d_Law_write_0 : decode b_Law_write 0 = .ok (.aload_n 1, 1) := by decide +kernel
theorem d_Law_write_1 : decode b_Law_write 1 = .ok (.iconst 0, 1) := by decide +kernel
theorem d_Law_write_2 : decode b_Law_write 2 = .ok (.aload_n 0, 1) := by decide +kernel
theorem d_Law_write_3 : decode b_Law_write 3 = .ok (.invokevirtual 43, 3) := by decide +kernel
theorem d_Law_write_6 : decode b_Law_write 6 = .ok (.i2l, 1) := by decide +kernel
theorem d_Law_write_7 : decode b_Law_write 7 = .ok (.lastore, 1) := by decide +kernel
theorem d_Law_write_8 : decode b_Law_write 8 = .ok (.goto 6, 3) := by decide +kernel
theorem d_Law_write_11 : decode b_Law_write 11 = .ok (.astore_n 2, 1) := by decide +kernel
theorem d_Law_write_12 : decode b_Law_write 12 = .ok (.iconst 1, 1) := by decide +kernel
theorem d_Law_write_13 : decode b_Law_write 13 = .ok (.ireturn, 1) := by decide +kernel
theorem d_Law_write_14 : decode b_Law_write 14 = .ok (.iconst 0, 1) := by decide +kernel
theorem d_Law_write_15 : decode b_Law_write 15 = .ok (.ireturn, 1) := by decide +kernel
theorem m_Law_write : Cond.codeWith y_Law_write b_Law_write 3 (some .int) [(0, 8, 11, 33)] ∈ BIG := mb (List.mem_of_getElem? (i := 682) (by decide +kernel)) rfl
abbrev b_Law_byteAt : ByteArray := method_11_code
def y_Law_byteAt : MethodName := ⟨"MaskLayersLaw", "byteAt", "(LMaskLayers;I[J)I"⟩
theorem d_Law_byteAt_0 : decode b_Law_byteAt 0 = .ok (.aload_n 2, 1) := by decide +kernel
theorem d_Law_byteAt_1 : decode b_Law_byteAt 1 = .ok (.iconst 0, 1) := by decide +kernel
theorem d_Law_byteAt_2 : decode b_Law_byteAt 2 = .ok (.aload_n 0, 1) := by decide +kernel
theorem d_Law_byteAt_3 : decode b_Law_byteAt 3 = .ok (.iload_n 1, 1) := by decide +kernel
theorem d_Law_byteAt_4 : decode b_Law_byteAt 4 = .ok (.invokevirtual 47, 3) := by decide +kernel
theorem d_Law_byteAt_7 : decode b_Law_byteAt 7 = .ok (.i2l, 1) := by decide +kernel
theorem d_Law_byteAt_8 : decode b_Law_byteAt 8 = .ok (.lastore, 1) := by decide +kernel
theorem d_Law_byteAt_9 : decode b_Law_byteAt 9 = .ok (.goto 6, 3) := by decide +kernel
theorem d_Law_byteAt_12 : decode b_Law_byteAt 12 = .ok (.astore_n 3, 1) := by decide +kernel
theorem d_Law_byteAt_13 : decode b_Law_byteAt 13 = .ok (.iconst 1, 1) := by decide +kernel
theorem d_Law_byteAt_14 : decode b_Law_byteAt 14 = .ok (.ireturn, 1) := by decide +kernel
theorem d_Law_byteAt_15 : decode b_Law_byteAt 15 = .ok (.iconst 0, 1) := by decide +kernel
theorem d_Law_byteAt_16 : decode b_Law_byteAt 16 = .ok (.ireturn, 1) := by decide +kernel
theorem m_Law_byteAt : Cond.codeWith y_Law_byteAt b_Law_byteAt 4 (some .int) [(0, 9, 12, 13)] ∈ BIG := mb (List.mem_of_getElem? (i := 759) (by decide +kernel)) rfl
abbrev b_Law_feed : ByteArray := method_12_code
def y_Law_feed : MethodName := ⟨"MaskLayersLaw", "feed", "(LMaskLayers;I[J)I"⟩
theorem d_Law_feed_0 : decode b_Law_feed 0 = .ok (.aload_n 2, 1) := by decide +kernel
theorem d_Law_feed_1 : decode b_Law_feed 1 = .ok (.iconst 0, 1) := by decide +kernel
theorem d_Law_feed_2 : decode b_Law_feed 2 = .ok (.aload_n 0, 1) := by decide +kernel
theorem d_Law_feed_3 : decode b_Law_feed 3 = .ok (.iload_n 1, 1) := by decide +kernel
theorem d_Law_feed_4 : decode b_Law_feed 4 = .ok (.invokevirtual 50, 3) := by decide +kernel
theorem d_Law_feed_7 : decode b_Law_feed 7 = .ok (.i2l, 1) := by decide +kernel
theorem d_Law_feed_8 : decode b_Law_feed 8 = .ok (.lastore, 1) := by decide +kernel
theorem d_Law_feed_9 : decode b_Law_feed 9 = .ok (.goto 9, 3) := by decide +kernel
theorem d_Law_feed_12 : decode b_Law_feed 12 = .ok (.astore_n 3, 1) := by decide +kernel
theorem d_Law_feed_13 : decode b_Law_feed 13 = .ok (.iconst 1, 1) := by decide +kernel
theorem d_Law_feed_14 : decode b_Law_feed 14 = .ok (.ireturn, 1) := by decide +kernel
theorem d_Law_feed_15 : decode b_Law_feed 15 = .ok (.astore_n 3, 1) := by decide +kernel
theorem d_Law_feed_16 : decode b_Law_feed 16 = .ok (.iconst 2, 1) := by decide +kernel
theorem d_Law_feed_17 : decode b_Law_feed 17 = .ok (.ireturn, 1) := by decide +kernel
theorem d_Law_feed_18 : decode b_Law_feed 18 = .ok (.iconst 0, 1) := by decide +kernel
theorem d_Law_feed_19 : decode b_Law_feed 19 = .ok (.ireturn, 1) := by decide +kernel
theorem m_Law_feed : Cond.codeWith y_Law_feed b_Law_feed 4 (some .int) [(0, 9, 12, 15), (0, 9, 15, 53)] ∈ BIG := mb (List.mem_of_getElem? (i := 776) (by decide +kernel)) rfl
abbrev b_Law_pass : ByteArray := method_13_code
def y_Law_pass : MethodName := ⟨"MaskLayersLaw", "pass", "(LMaskLayers;II[J)I"⟩
theorem d_Law_pass_0 : decode b_Law_pass 0 = .ok (.aload_n 3, 1) := by decide +kernel
theorem d_Law_pass_1 : decode b_Law_pass 1 = .ok (.iconst 0, 1) := by decide +kernel
theorem d_Law_pass_2 : decode b_Law_pass 2 = .ok (.aload_n 0, 1) := by decide +kernel
theorem d_Law_pass_3 : decode b_Law_pass 3 = .ok (.iload_n 1, 1) := by decide +kernel
theorem d_Law_pass_4 : decode b_Law_pass 4 = .ok (.iload_n 2, 1) := by decide +kernel
theorem d_Law_pass_5 : decode b_Law_pass 5 = .ok (.invokevirtual 55, 3) := by decide +kernel
theorem d_Law_pass_8 : decode b_Law_pass 8 = .ok (.i2l, 1) := by decide +kernel
theorem d_Law_pass_9 : decode b_Law_pass 9 = .ok (.lastore, 1) := by decide +kernel
theorem d_Law_pass_10 : decode b_Law_pass 10 = .ok (.goto 15, 3) := by decide +kernel
theorem d_Law_pass_13 : decode b_Law_pass 13 = .ok (.astore 4, 2) := by decide +kernel
theorem d_Law_pass_15 : decode b_Law_pass 15 = .ok (.iconst 1, 1) := by decide +kernel
theorem d_Law_pass_16 : decode b_Law_pass 16 = .ok (.ireturn, 1) := by decide +kernel
theorem d_Law_pass_17 : decode b_Law_pass 17 = .ok (.astore 4, 2) := by decide +kernel
theorem d_Law_pass_19 : decode b_Law_pass 19 = .ok (.iconst 2, 1) := by decide +kernel
theorem d_Law_pass_20 : decode b_Law_pass 20 = .ok (.ireturn, 1) := by decide +kernel
theorem d_Law_pass_21 : decode b_Law_pass 21 = .ok (.astore 4, 2) := by decide +kernel
theorem d_Law_pass_23 : decode b_Law_pass 23 = .ok (.iconst 3, 1) := by decide +kernel
theorem d_Law_pass_24 : decode b_Law_pass 24 = .ok (.ireturn, 1) := by decide +kernel
theorem d_Law_pass_25 : decode b_Law_pass 25 = .ok (.iconst 0, 1) := by decide +kernel
theorem d_Law_pass_26 : decode b_Law_pass 26 = .ok (.ireturn, 1) := by decide +kernel
theorem m_Law_pass : Cond.codeWith y_Law_pass b_Law_pass 5 (some .int) [(0, 10, 13, 13), (0, 10, 17, 15), (0, 10, 21, 53)] ∈ BIG := mb (List.mem_of_getElem? (i := 806) (by decide +kernel)) rfl
abbrev b_Law_alter : ByteArray := method_14_code
def y_Law_alter : MethodName := ⟨"MaskLayersLaw", "alter", "(LMaskLayers;II[J)I"⟩
theorem d_Law_alter_0 : decode b_Law_alter 0 = .ok (.aload_n 3, 1) := by decide +kernel
theorem d_Law_alter_1 : decode b_Law_alter 1 = .ok (.iconst 0, 1) := by decide +kernel
theorem d_Law_alter_2 : decode b_Law_alter 2 = .ok (.aload_n 0, 1) := by decide +kernel
theorem d_Law_alter_3 : decode b_Law_alter 3 = .ok (.iload_n 1, 1) := by decide +kernel
theorem d_Law_alter_4 : decode b_Law_alter 4 = .ok (.iload_n 2, 1) := by decide +kernel
theorem d_Law_alter_5 : decode b_Law_alter 5 = .ok (.invokevirtual 58, 3) := by decide +kernel
theorem d_Law_alter_8 : decode b_Law_alter 8 = .ok (.i2l, 1) := by decide +kernel
theorem d_Law_alter_9 : decode b_Law_alter 9 = .ok (.lastore, 1) := by decide +kernel
theorem d_Law_alter_10 : decode b_Law_alter 10 = .ok (.goto 11, 3) := by decide +kernel
theorem d_Law_alter_13 : decode b_Law_alter 13 = .ok (.astore 4, 2) := by decide +kernel
theorem d_Law_alter_15 : decode b_Law_alter 15 = .ok (.iconst 1, 1) := by decide +kernel
theorem d_Law_alter_16 : decode b_Law_alter 16 = .ok (.ireturn, 1) := by decide +kernel
theorem d_Law_alter_17 : decode b_Law_alter 17 = .ok (.astore 4, 2) := by decide +kernel
theorem d_Law_alter_19 : decode b_Law_alter 19 = .ok (.iconst 2, 1) := by decide +kernel
theorem d_Law_alter_20 : decode b_Law_alter 20 = .ok (.ireturn, 1) := by decide +kernel
theorem d_Law_alter_21 : decode b_Law_alter 21 = .ok (.iconst 0, 1) := by decide +kernel
theorem d_Law_alter_22 : decode b_Law_alter 22 = .ok (.ireturn, 1) := by decide +kernel
theorem m_Law_alter : Cond.codeWith y_Law_alter b_Law_alter 5 (some .int) [(0, 10, 13, 13), (0, 10, 17, 15)] ∈ BIG := mb (List.mem_of_getElem? (i := 814) (by decide +kernel)) rfl
abbrev b_Law_at : ByteArray := method_15_code
def y_Law_at : MethodName := ⟨"MaskLayersLaw", "at", "(LMaskLayers;II[J)I"⟩
theorem d_Law_at_0 : decode b_Law_at 0 = .ok (.aload_n 3, 1) := by decide +kernel
theorem d_Law_at_1 : decode b_Law_at 1 = .ok (.iconst 0, 1) := by decide +kernel
theorem d_Law_at_2 : decode b_Law_at 2 = .ok (.aload_n 0, 1) := by decide +kernel
theorem d_Law_at_3 : decode b_Law_at 3 = .ok (.iload_n 1, 1) := by decide +kernel
theorem d_Law_at_4 : decode b_Law_at 4 = .ok (.iload_n 2, 1) := by decide +kernel
theorem d_Law_at_5 : decode b_Law_at 5 = .ok (.invokevirtual 61, 3) := by decide +kernel
theorem d_Law_at_8 : decode b_Law_at 8 = .ok (.i2l, 1) := by decide +kernel
theorem d_Law_at_9 : decode b_Law_at 9 = .ok (.lastore, 1) := by decide +kernel
theorem d_Law_at_10 : decode b_Law_at 10 = .ok (.goto 11, 3) := by decide +kernel
theorem d_Law_at_13 : decode b_Law_at 13 = .ok (.astore 4, 2) := by decide +kernel
theorem d_Law_at_15 : decode b_Law_at 15 = .ok (.iconst 1, 1) := by decide +kernel
theorem d_Law_at_16 : decode b_Law_at 16 = .ok (.ireturn, 1) := by decide +kernel
theorem d_Law_at_17 : decode b_Law_at 17 = .ok (.astore 4, 2) := by decide +kernel
theorem d_Law_at_19 : decode b_Law_at 19 = .ok (.iconst 2, 1) := by decide +kernel
theorem d_Law_at_20 : decode b_Law_at 20 = .ok (.ireturn, 1) := by decide +kernel
theorem d_Law_at_21 : decode b_Law_at 21 = .ok (.iconst 0, 1) := by decide +kernel
theorem d_Law_at_22 : decode b_Law_at 22 = .ok (.ireturn, 1) := by decide +kernel
theorem m_Law_at : Cond.codeWith y_Law_at b_Law_at 5 (some .int) [(0, 10, 13, 33), (0, 10, 17, 13)] ∈ BIG := mb (List.mem_of_getElem? (i := 826) (by decide +kernel)) rfl
def rm_Law_put (cT sT : Nat) : Room := { frames := 7, cells := cT, slots := sT, locals := 124 }
def rm_Law_mask (cT sT : Nat) : Room := { frames := 7, cells := cT, slots := sT, locals := 124 }
def rm_Law_stripe (cT sT : Nat) : Room := { frames := 7, cells := cT, slots := sT, locals := 121 }
def rm_Law_run (cT sT : Nat) : Room := { frames := 8, cells := cT, slots := sT, locals := 179 }
def rm_Law_layer (cT sT : Nat) : Room := { frames := 7, cells := cT, slots := sT, locals := 123 }
def rm_Law_filled (cT sT : Nat) : Room := { frames := 7, cells := cT, slots := sT, locals := 123 }
def rm_Law_joined (cT sT : Nat) : Room := { frames := 7, cells := cT, slots := sT, locals := 135 }
def rm_Law_write (cT sT : Nat) : Room := { frames := 8, cells := cT, slots := sT, locals := 222 }
def rm_Law_byteAt (cT sT : Nat) : Room := { frames := 7, cells := cT, slots := sT, locals := 121 }
def rm_Law_feed (cT sT : Nat) : Room := { frames := 7, cells := cT, slots := sT, locals := 128 }
def rm_Law_pass (cT sT : Nat) : Room := { frames := 7, cells := cT, slots := sT, locals := 131 }
def rm_Law_alter (cT sT : Nat) : Room := { frames := 7, cells := cT, slots := sT, locals := 122 }
def rm_Law_at (cT sT : Nat) : Room := { frames := 7, cells := cT, slots := sT, locals := 158 }
section WH
variable {p : Program} {l : Launch} {e : Env} {R : Room} {s : State} {m : MethodId} {args : Array Value} {below : List Frame} {meth : Method} {c : Code} {D : va_G} {A : Nat → Prop} {X : va_W → Prop} {nL : Nat} {Q : State → Prop} {cells slots : Nat} {ws : va_W} {lv : List (Nat × Value)} {st : List Value} {pc : Nat}
variable {tys : List (ClassId × FieldType)} {cc : ByteArray}
theorem cwn_Law_put (C : Cx p s m args meth c D tys cc nL "MaskLayersLaw") (hR : rm_ML_put.frames + 1 ≤ R.frames ∧ 8 + (5 + 11) + rm_ML_put.locals ≤ R.locals) : CallW R s args "MaskLayersLaw" "MaskLayers" 7 y_ML_put b_ML_put 5 (some .int) (Cond.code y_ML_put b_ML_put 5 (some .int) :: BIG) rm_ML_put 0 0 4 :=
  ⟨cB C (mb (List.mem_of_getElem? (i := 405) (by decide +kernel)) rfl) (mb (List.mem_of_getElem? (i := 63) (by decide +kernel)) rfl) m_ML_put rfl rfl ⟨by decide, by decide, by decide +kernel⟩ hR, C.1.2.2.2.2 _ (mb (List.mem_of_getElem? (i := 406) (by decide +kernel)) rfl), C.1.2.2.2.2 _ (mb (List.mem_of_getElem? (i := 407) (by decide +kernel)) rfl)⟩
theorem cwt_Law_put (C : Cx p s m args meth c D tys cc nL "MaskLayersLaw") (hR : rm_ML_put_t.frames + 1 ≤ R.frames ∧ 8 + (5 + 11) + rm_ML_put_t.locals ≤ R.locals) : CallW R s args "MaskLayersLaw" "MaskLayers" 7 y_ML_put b_ML_put 5 (some .int) (Cond.code y_ML_put b_ML_put 5 (some .int) :: BIG) rm_ML_put_t 1 6 4 :=
  ⟨cB C (mb (List.mem_of_getElem? (i := 405) (by decide +kernel)) rfl) (mb (List.mem_of_getElem? (i := 63) (by decide +kernel)) rfl) m_ML_put rfl rfl ⟨by decide, by decide, by decide +kernel⟩ hR, C.1.2.2.2.2 _ (mb (List.mem_of_getElem? (i := 406) (by decide +kernel)) rfl), C.1.2.2.2.2 _ (mb (List.mem_of_getElem? (i := 407) (by decide +kernel)) rfl)⟩
theorem cwn_Law_mask (C : Cx p s m args meth c D tys cc nL "MaskLayersLaw") (hR : rm_ML_mask.frames + 1 ≤ R.frames ∧ 8 + (5 + 11) + rm_ML_mask.locals ≤ R.locals) : CallW R s args "MaskLayersLaw" "MaskLayers" 17 y_ML_mask b_ML_mask 5 (some .int) (Cond.code y_ML_mask b_ML_mask 5 (some .int) :: BIG) rm_ML_mask 0 0 4 :=
  ⟨cB C (mb (List.mem_of_getElem? (i := 506) (by decide +kernel)) rfl) (mb (List.mem_of_getElem? (i := 63) (by decide +kernel)) rfl) m_ML_mask rfl rfl ⟨by decide, by decide, by decide +kernel⟩ hR, C.1.2.2.2.2 _ (mb (List.mem_of_getElem? (i := 507) (by decide +kernel)) rfl), C.1.2.2.2.2 _ (mb (List.mem_of_getElem? (i := 508) (by decide +kernel)) rfl)⟩
theorem cwt_Law_mask (C : Cx p s m args meth c D tys cc nL "MaskLayersLaw") (hR : rm_ML_mask_t.frames + 1 ≤ R.frames ∧ 8 + (5 + 11) + rm_ML_mask_t.locals ≤ R.locals) : CallW R s args "MaskLayersLaw" "MaskLayers" 17 y_ML_mask b_ML_mask 5 (some .int) (Cond.code y_ML_mask b_ML_mask 5 (some .int) :: BIG) rm_ML_mask_t 1 6 4 :=
  ⟨cB C (mb (List.mem_of_getElem? (i := 506) (by decide +kernel)) rfl) (mb (List.mem_of_getElem? (i := 63) (by decide +kernel)) rfl) m_ML_mask rfl rfl ⟨by decide, by decide, by decide +kernel⟩ hR, C.1.2.2.2.2 _ (mb (List.mem_of_getElem? (i := 507) (by decide +kernel)) rfl), C.1.2.2.2.2 _ (mb (List.mem_of_getElem? (i := 508) (by decide +kernel)) rfl)⟩
theorem cwn_Law_stripe (C : Cx p s m args meth c D tys cc nL "MaskLayersLaw") (hR : rm_ML_stripe.frames + 1 ≤ R.frames ∧ 8 + (2 + 11) + rm_ML_stripe.locals ≤ R.locals) : CallW R s args "MaskLayersLaw" "MaskLayers" 21 y_ML_stripe b_ML_stripe 2 (some .int) (Cond.code y_ML_stripe b_ML_stripe 2 (some .int) :: BIG) rm_ML_stripe 0 0 1 :=
  ⟨cB C (mb (List.mem_of_getElem? (i := 514) (by decide +kernel)) rfl) (mb (List.mem_of_getElem? (i := 63) (by decide +kernel)) rfl) m_ML_stripe rfl rfl ⟨by decide, by decide, by decide +kernel⟩ hR, C.1.2.2.2.2 _ (mb (List.mem_of_getElem? (i := 515) (by decide +kernel)) rfl), C.1.2.2.2.2 _ (mb (List.mem_of_getElem? (i := 516) (by decide +kernel)) rfl)⟩
theorem cwt_Law_stripe (C : Cx p s m args meth c D tys cc nL "MaskLayersLaw") (hR : rm_ML_stripe_t.frames + 1 ≤ R.frames ∧ 8 + (2 + 11) + rm_ML_stripe_t.locals ≤ R.locals) : CallW R s args "MaskLayersLaw" "MaskLayers" 21 y_ML_stripe b_ML_stripe 2 (some .int) (Cond.code y_ML_stripe b_ML_stripe 2 (some .int) :: BIG) rm_ML_stripe_t 1 6 1 :=
  ⟨cB C (mb (List.mem_of_getElem? (i := 514) (by decide +kernel)) rfl) (mb (List.mem_of_getElem? (i := 63) (by decide +kernel)) rfl) m_ML_stripe rfl rfl ⟨by decide, by decide, by decide +kernel⟩ hR, C.1.2.2.2.2 _ (mb (List.mem_of_getElem? (i := 515) (by decide +kernel)) rfl), C.1.2.2.2.2 _ (mb (List.mem_of_getElem? (i := 516) (by decide +kernel)) rfl)⟩
theorem cwn_Law_run (C : Cx p s m args meth c D tys cc nL "MaskLayersLaw") (hR : rm_ML_run.frames + 1 ≤ R.frames ∧ 8 + (4 + 11) + rm_ML_run.locals ≤ R.locals) : CallW R s args "MaskLayersLaw" "MaskLayers" 25 y_ML_run b_ML_run 4 (some .int) (Cond.code y_ML_run b_ML_run 4 (some .int) :: BIG) rm_ML_run 0 0 3 :=
  ⟨cB C (mb (List.mem_of_getElem? (i := 522) (by decide +kernel)) rfl) (mb (List.mem_of_getElem? (i := 63) (by decide +kernel)) rfl) m_ML_run rfl rfl ⟨by decide, by decide, by decide +kernel⟩ hR, C.1.2.2.2.2 _ (mb (List.mem_of_getElem? (i := 523) (by decide +kernel)) rfl), C.1.2.2.2.2 _ (mb (List.mem_of_getElem? (i := 524) (by decide +kernel)) rfl)⟩
theorem cwt_Law_run (C : Cx p s m args meth c D tys cc nL "MaskLayersLaw") (hR : rm_ML_run_t.frames + 1 ≤ R.frames ∧ 8 + (4 + 11) + rm_ML_run_t.locals ≤ R.locals) : CallW R s args "MaskLayersLaw" "MaskLayers" 25 y_ML_run b_ML_run 4 (some .int) (Cond.code y_ML_run b_ML_run 4 (some .int) :: BIG) rm_ML_run_t 1 6 3 :=
  ⟨cB C (mb (List.mem_of_getElem? (i := 522) (by decide +kernel)) rfl) (mb (List.mem_of_getElem? (i := 63) (by decide +kernel)) rfl) m_ML_run rfl rfl ⟨by decide, by decide, by decide +kernel⟩ hR, C.1.2.2.2.2 _ (mb (List.mem_of_getElem? (i := 523) (by decide +kernel)) rfl), C.1.2.2.2.2 _ (mb (List.mem_of_getElem? (i := 524) (by decide +kernel)) rfl)⟩
theorem cwn_Law_layer (C : Cx p s m args meth c D tys cc nL "MaskLayersLaw") (hR : rm_ML_layer.frames + 1 ≤ R.frames ∧ 8 + (4 + 11) + rm_ML_layer.locals ≤ R.locals) : CallW R s args "MaskLayersLaw" "MaskLayers" 29 y_ML_layer b_ML_layer 4 (some .int) (Cond.code y_ML_layer b_ML_layer 4 (some .int) :: BIG) rm_ML_layer 0 0 3 :=
  ⟨cB C (mb (List.mem_of_getElem? (i := 622) (by decide +kernel)) rfl) (mb (List.mem_of_getElem? (i := 63) (by decide +kernel)) rfl) m_ML_layer rfl rfl ⟨by decide, by decide, by decide +kernel⟩ hR, C.1.2.2.2.2 _ (mb (List.mem_of_getElem? (i := 623) (by decide +kernel)) rfl), C.1.2.2.2.2 _ (mb (List.mem_of_getElem? (i := 624) (by decide +kernel)) rfl)⟩
theorem cwt_Law_layer (C : Cx p s m args meth c D tys cc nL "MaskLayersLaw") (hR : rm_ML_layer_t.frames + 1 ≤ R.frames ∧ 8 + (4 + 11) + rm_ML_layer_t.locals ≤ R.locals) : CallW R s args "MaskLayersLaw" "MaskLayers" 29 y_ML_layer b_ML_layer 4 (some .int) (Cond.code y_ML_layer b_ML_layer 4 (some .int) :: BIG) rm_ML_layer_t 1 6 3 :=
  ⟨cB C (mb (List.mem_of_getElem? (i := 622) (by decide +kernel)) rfl) (mb (List.mem_of_getElem? (i := 63) (by decide +kernel)) rfl) m_ML_layer rfl rfl ⟨by decide, by decide, by decide +kernel⟩ hR, C.1.2.2.2.2 _ (mb (List.mem_of_getElem? (i := 623) (by decide +kernel)) rfl), C.1.2.2.2.2 _ (mb (List.mem_of_getElem? (i := 624) (by decide +kernel)) rfl)⟩
theorem cwn_Law_filled (C : Cx p s m args meth c D tys cc nL "MaskLayersLaw") (hR : rm_ML_filled.frames + 1 ≤ R.frames ∧ 8 + (4 + 11) + rm_ML_filled.locals ≤ R.locals) : CallW R s args "MaskLayersLaw" "MaskLayers" 35 y_ML_filled b_ML_filled 4 (some .boolean) (Cond.code y_ML_filled b_ML_filled 4 (some .boolean) :: BIG) rm_ML_filled 0 0 3 :=
  ⟨cB C (mb (List.mem_of_getElem? (i := 657) (by decide +kernel)) rfl) (mb (List.mem_of_getElem? (i := 63) (by decide +kernel)) rfl) m_ML_filled rfl rfl ⟨by decide, by decide, by decide +kernel⟩ hR, C.1.2.2.2.2 _ (mb (List.mem_of_getElem? (i := 658) (by decide +kernel)) rfl), C.1.2.2.2.2 _ (mb (List.mem_of_getElem? (i := 659) (by decide +kernel)) rfl)⟩
theorem cwt_Law_filled (C : Cx p s m args meth c D tys cc nL "MaskLayersLaw") (hR : rm_ML_filled_t.frames + 1 ≤ R.frames ∧ 8 + (4 + 11) + rm_ML_filled_t.locals ≤ R.locals) : CallW R s args "MaskLayersLaw" "MaskLayers" 35 y_ML_filled b_ML_filled 4 (some .boolean) (Cond.code y_ML_filled b_ML_filled 4 (some .boolean) :: BIG) rm_ML_filled_t 1 6 3 :=
  ⟨cB C (mb (List.mem_of_getElem? (i := 657) (by decide +kernel)) rfl) (mb (List.mem_of_getElem? (i := 63) (by decide +kernel)) rfl) m_ML_filled rfl rfl ⟨by decide, by decide, by decide +kernel⟩ hR, C.1.2.2.2.2 _ (mb (List.mem_of_getElem? (i := 658) (by decide +kernel)) rfl), C.1.2.2.2.2 _ (mb (List.mem_of_getElem? (i := 659) (by decide +kernel)) rfl)⟩
theorem cwn_Law_joined (C : Cx p s m args meth c D tys cc nL "MaskLayersLaw") (hR : rm_ML_joined.frames + 1 ≤ R.frames ∧ 8 + (3 + 11) + rm_ML_joined.locals ≤ R.locals) : CallW R s args "MaskLayersLaw" "MaskLayers" 39 y_ML_joined b_ML_joined 3 (some .int) (Cond.code y_ML_joined b_ML_joined 3 (some .int) :: BIG) rm_ML_joined 0 0 2 :=
  ⟨cB C (mb (List.mem_of_getElem? (i := 671) (by decide +kernel)) rfl) (mb (List.mem_of_getElem? (i := 63) (by decide +kernel)) rfl) m_ML_joined rfl rfl ⟨by decide, by decide, by decide +kernel⟩ hR, C.1.2.2.2.2 _ (mb (List.mem_of_getElem? (i := 672) (by decide +kernel)) rfl), C.1.2.2.2.2 _ (mb (List.mem_of_getElem? (i := 673) (by decide +kernel)) rfl)⟩
theorem cwt_Law_joined (C : Cx p s m args meth c D tys cc nL "MaskLayersLaw") (hR : rm_ML_joined_t.frames + 1 ≤ R.frames ∧ 8 + (3 + 11) + rm_ML_joined_t.locals ≤ R.locals) : CallW R s args "MaskLayersLaw" "MaskLayers" 39 y_ML_joined b_ML_joined 3 (some .int) (Cond.code y_ML_joined b_ML_joined 3 (some .int) :: BIG) rm_ML_joined_t 1 6 2 :=
  ⟨cB C (mb (List.mem_of_getElem? (i := 671) (by decide +kernel)) rfl) (mb (List.mem_of_getElem? (i := 63) (by decide +kernel)) rfl) m_ML_joined rfl rfl ⟨by decide, by decide, by decide +kernel⟩ hR, C.1.2.2.2.2 _ (mb (List.mem_of_getElem? (i := 672) (by decide +kernel)) rfl), C.1.2.2.2.2 _ (mb (List.mem_of_getElem? (i := 673) (by decide +kernel)) rfl)⟩
theorem cwn_Law_write (C : Cx p s m args meth c D tys cc nL "MaskLayersLaw") {mc ms : Nat} (hR : (rm_ML_write mc ms).frames + 1 ≤ R.frames ∧ 8 + (1 + 11) + (rm_ML_write mc ms).locals ≤ R.locals) : CallW R s args "MaskLayersLaw" "MaskLayers" 43 y_ML_write b_ML_write 1 (some .int) (Cond.code y_ML_write b_ML_write 1 (some .int) :: BIG) (rm_ML_write mc ms) mc ms 0 :=
  ⟨cB C (mb (List.mem_of_getElem? (i := 683) (by decide +kernel)) rfl) (mb (List.mem_of_getElem? (i := 63) (by decide +kernel)) rfl) m_ML_write rfl rfl ⟨by decide, by decide, by decide +kernel⟩ hR, C.1.2.2.2.2 _ (mb (List.mem_of_getElem? (i := 684) (by decide +kernel)) rfl), C.1.2.2.2.2 _ (mb (List.mem_of_getElem? (i := 685) (by decide +kernel)) rfl)⟩
theorem cwt_Law_write (C : Cx p s m args meth c D tys cc nL "MaskLayersLaw") (hR : rm_ML_write_t.frames + 1 ≤ R.frames ∧ 8 + (1 + 11) + rm_ML_write_t.locals ≤ R.locals) : CallW R s args "MaskLayersLaw" "MaskLayers" 43 y_ML_write b_ML_write 1 (some .int) (Cond.code y_ML_write b_ML_write 1 (some .int) :: BIG) rm_ML_write_t 1 6 0 :=
  ⟨cB C (mb (List.mem_of_getElem? (i := 683) (by decide +kernel)) rfl) (mb (List.mem_of_getElem? (i := 63) (by decide +kernel)) rfl) m_ML_write rfl rfl ⟨by decide, by decide, by decide +kernel⟩ hR, C.1.2.2.2.2 _ (mb (List.mem_of_getElem? (i := 684) (by decide +kernel)) rfl), C.1.2.2.2.2 _ (mb (List.mem_of_getElem? (i := 685) (by decide +kernel)) rfl)⟩
theorem cwn_Law_byteAt (C : Cx p s m args meth c D tys cc nL "MaskLayersLaw") (hR : rm_ML_byteAt.frames + 1 ≤ R.frames ∧ 8 + (2 + 11) + rm_ML_byteAt.locals ≤ R.locals) : CallW R s args "MaskLayersLaw" "MaskLayers" 47 y_ML_byteAt b_ML_byteAt 2 (some .int) (Cond.code y_ML_byteAt b_ML_byteAt 2 (some .int) :: BIG) rm_ML_byteAt 0 0 1 :=
  ⟨cB C (mb (List.mem_of_getElem? (i := 760) (by decide +kernel)) rfl) (mb (List.mem_of_getElem? (i := 63) (by decide +kernel)) rfl) m_ML_byteAt rfl rfl ⟨by decide, by decide, by decide +kernel⟩ hR, C.1.2.2.2.2 _ (mb (List.mem_of_getElem? (i := 761) (by decide +kernel)) rfl), C.1.2.2.2.2 _ (mb (List.mem_of_getElem? (i := 762) (by decide +kernel)) rfl)⟩
theorem cwt_Law_byteAt (C : Cx p s m args meth c D tys cc nL "MaskLayersLaw") (hR : rm_ML_byteAt_t.frames + 1 ≤ R.frames ∧ 8 + (2 + 11) + rm_ML_byteAt_t.locals ≤ R.locals) : CallW R s args "MaskLayersLaw" "MaskLayers" 47 y_ML_byteAt b_ML_byteAt 2 (some .int) (Cond.code y_ML_byteAt b_ML_byteAt 2 (some .int) :: BIG) rm_ML_byteAt_t 1 6 1 :=
  ⟨cB C (mb (List.mem_of_getElem? (i := 760) (by decide +kernel)) rfl) (mb (List.mem_of_getElem? (i := 63) (by decide +kernel)) rfl) m_ML_byteAt rfl rfl ⟨by decide, by decide, by decide +kernel⟩ hR, C.1.2.2.2.2 _ (mb (List.mem_of_getElem? (i := 761) (by decide +kernel)) rfl), C.1.2.2.2.2 _ (mb (List.mem_of_getElem? (i := 762) (by decide +kernel)) rfl)⟩
theorem cwn_Law_feed (C : Cx p s m args meth c D tys cc nL "MaskLayersLaw") {mc ms : Nat} (hR : (rm_ML_feed mc ms).frames + 1 ≤ R.frames ∧ 8 + (2 + 11) + (rm_ML_feed mc ms).locals ≤ R.locals) : CallW R s args "MaskLayersLaw" "MaskLayers" 50 y_ML_feed b_ML_feed 2 (some .int) (Cond.code y_ML_feed b_ML_feed 2 (some .int) :: BIG) (rm_ML_feed mc ms) mc ms 1 :=
  ⟨cB C (mb (List.mem_of_getElem? (i := 778) (by decide +kernel)) rfl) (mb (List.mem_of_getElem? (i := 63) (by decide +kernel)) rfl) m_ML_feed rfl rfl ⟨by decide, by decide, by decide +kernel⟩ hR, C.1.2.2.2.2 _ (mb (List.mem_of_getElem? (i := 779) (by decide +kernel)) rfl), C.1.2.2.2.2 _ (mb (List.mem_of_getElem? (i := 780) (by decide +kernel)) rfl)⟩
theorem cwt_Law_feed (C : Cx p s m args meth c D tys cc nL "MaskLayersLaw") (hR : rm_ML_feed_t.frames + 1 ≤ R.frames ∧ 8 + (2 + 11) + rm_ML_feed_t.locals ≤ R.locals) : CallW R s args "MaskLayersLaw" "MaskLayers" 50 y_ML_feed b_ML_feed 2 (some .int) (Cond.code y_ML_feed b_ML_feed 2 (some .int) :: BIG) rm_ML_feed_t 1 6 1 :=
  ⟨cB C (mb (List.mem_of_getElem? (i := 778) (by decide +kernel)) rfl) (mb (List.mem_of_getElem? (i := 63) (by decide +kernel)) rfl) m_ML_feed rfl rfl ⟨by decide, by decide, by decide +kernel⟩ hR, C.1.2.2.2.2 _ (mb (List.mem_of_getElem? (i := 779) (by decide +kernel)) rfl), C.1.2.2.2.2 _ (mb (List.mem_of_getElem? (i := 780) (by decide +kernel)) rfl)⟩
theorem cwn_Law_pass (C : Cx p s m args meth c D tys cc nL "MaskLayersLaw") {mc ms : Nat} (hR : (rm_ML_pass mc ms).frames + 1 ≤ R.frames ∧ 8 + (5 + 11) + (rm_ML_pass mc ms).locals ≤ R.locals) : CallW R s args "MaskLayersLaw" "MaskLayers" 55 y_ML_pass b_ML_pass 5 (some .int) (Cond.code y_ML_pass b_ML_pass 5 (some .int) :: BIG) (rm_ML_pass mc ms) mc ms 2 :=
  ⟨cB C (mb (List.mem_of_getElem? (i := 807) (by decide +kernel)) rfl) (mb (List.mem_of_getElem? (i := 63) (by decide +kernel)) rfl) m_ML_pass rfl rfl ⟨by decide, by decide, by decide +kernel⟩ hR, C.1.2.2.2.2 _ (mb (List.mem_of_getElem? (i := 808) (by decide +kernel)) rfl), C.1.2.2.2.2 _ (mb (List.mem_of_getElem? (i := 809) (by decide +kernel)) rfl)⟩
theorem cwt_Law_pass (C : Cx p s m args meth c D tys cc nL "MaskLayersLaw") (hR : rm_ML_pass_t.frames + 1 ≤ R.frames ∧ 8 + (5 + 11) + rm_ML_pass_t.locals ≤ R.locals) : CallW R s args "MaskLayersLaw" "MaskLayers" 55 y_ML_pass b_ML_pass 5 (some .int) (Cond.code y_ML_pass b_ML_pass 5 (some .int) :: BIG) rm_ML_pass_t 1 6 2 :=
  ⟨cB C (mb (List.mem_of_getElem? (i := 807) (by decide +kernel)) rfl) (mb (List.mem_of_getElem? (i := 63) (by decide +kernel)) rfl) m_ML_pass rfl rfl ⟨by decide, by decide, by decide +kernel⟩ hR, C.1.2.2.2.2 _ (mb (List.mem_of_getElem? (i := 808) (by decide +kernel)) rfl), C.1.2.2.2.2 _ (mb (List.mem_of_getElem? (i := 809) (by decide +kernel)) rfl)⟩
theorem cwn_Law_alter (C : Cx p s m args meth c D tys cc nL "MaskLayersLaw") (hR : rm_ML_alter.frames + 1 ≤ R.frames ∧ 8 + (3 + 11) + rm_ML_alter.locals ≤ R.locals) : CallW R s args "MaskLayersLaw" "MaskLayers" 58 y_ML_alter b_ML_alter 3 (some .int) (Cond.code y_ML_alter b_ML_alter 3 (some .int) :: BIG) rm_ML_alter 0 0 2 :=
  ⟨cB C (mb (List.mem_of_getElem? (i := 815) (by decide +kernel)) rfl) (mb (List.mem_of_getElem? (i := 63) (by decide +kernel)) rfl) m_ML_alter rfl rfl ⟨by decide, by decide, by decide +kernel⟩ hR, C.1.2.2.2.2 _ (mb (List.mem_of_getElem? (i := 816) (by decide +kernel)) rfl), C.1.2.2.2.2 _ (mb (List.mem_of_getElem? (i := 817) (by decide +kernel)) rfl)⟩
theorem cwt_Law_alter (C : Cx p s m args meth c D tys cc nL "MaskLayersLaw") (hR : rm_ML_alter_t.frames + 1 ≤ R.frames ∧ 8 + (3 + 11) + rm_ML_alter_t.locals ≤ R.locals) : CallW R s args "MaskLayersLaw" "MaskLayers" 58 y_ML_alter b_ML_alter 3 (some .int) (Cond.code y_ML_alter b_ML_alter 3 (some .int) :: BIG) rm_ML_alter_t 1 6 2 :=
  ⟨cB C (mb (List.mem_of_getElem? (i := 815) (by decide +kernel)) rfl) (mb (List.mem_of_getElem? (i := 63) (by decide +kernel)) rfl) m_ML_alter rfl rfl ⟨by decide, by decide, by decide +kernel⟩ hR, C.1.2.2.2.2 _ (mb (List.mem_of_getElem? (i := 816) (by decide +kernel)) rfl), C.1.2.2.2.2 _ (mb (List.mem_of_getElem? (i := 817) (by decide +kernel)) rfl)⟩
theorem cwn_Law_at (C : Cx p s m args meth c D tys cc nL "MaskLayersLaw") (hR : rm_ML_at.frames + 1 ≤ R.frames ∧ 8 + (3 + 11) + rm_ML_at.locals ≤ R.locals) : CallW R s args "MaskLayersLaw" "MaskLayers" 61 y_ML_at b_ML_at 3 (some .int) (Cond.code y_ML_at b_ML_at 3 (some .int) :: BIG) rm_ML_at 0 0 2 :=
  ⟨cB C (mb (List.mem_of_getElem? (i := 827) (by decide +kernel)) rfl) (mb (List.mem_of_getElem? (i := 63) (by decide +kernel)) rfl) m_ML_at rfl rfl ⟨by decide, by decide, by decide +kernel⟩ hR, C.1.2.2.2.2 _ (mb (List.mem_of_getElem? (i := 828) (by decide +kernel)) rfl), C.1.2.2.2.2 _ (mb (List.mem_of_getElem? (i := 829) (by decide +kernel)) rfl)⟩
theorem cwt_Law_at (C : Cx p s m args meth c D tys cc nL "MaskLayersLaw") (hR : rm_ML_at_t.frames + 1 ≤ R.frames ∧ 8 + (3 + 11) + rm_ML_at_t.locals ≤ R.locals) : CallW R s args "MaskLayersLaw" "MaskLayers" 61 y_ML_at b_ML_at 3 (some .int) (Cond.code y_ML_at b_ML_at 3 (some .int) :: BIG) rm_ML_at_t 1 6 2 :=
  ⟨cB C (mb (List.mem_of_getElem? (i := 827) (by decide +kernel)) rfl) (mb (List.mem_of_getElem? (i := 63) (by decide +kernel)) rfl) m_ML_at rfl rfl ⟨by decide, by decide, by decide +kernel⟩ hR, C.1.2.2.2.2 _ (mb (List.mem_of_getElem? (i := 828) (by decide +kernel)) rfl), C.1.2.2.2.2 _ (mb (List.mem_of_getElem? (i := 829) (by decide +kernel)) rfl)⟩
end WH
