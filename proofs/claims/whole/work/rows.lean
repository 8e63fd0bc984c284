section
-- ===== PART A: goes FIRST, ahead of the names: the tables' words, and 'selects' of the private methods out of them =====
/-- a private method of a class that the tables say can be made, by its rows of tables_1 -/
def lw_okq (q : MethodName × Nat) : Prop := (q.1.cls ≠ "java/lang/invoke/MethodHandle" ∧ q.1.cls ≠ "java/lang/invoke/VarHandle") ∧ Cond.instantiable q.1.cls q.2 ∈ tables_1 ∧ Cond.privateMethod q.1 ∈ tables_1 ∧ Cond.instanceMethod q.1 ∈ tables_1
theorem lw_p0 : lw_okq (⟨"MaskLayers$Reader", "readHead", "()Z"⟩, 5) := ⟨⟨by decide +kernel, by decide +kernel⟩, List.mem_of_getElem? (i := 131) (by decide +kernel), List.mem_of_getElem? (i := 207) (by decide +kernel), List.mem_of_getElem? (i := 208) (by decide +kernel)⟩
theorem lw_p1 : lw_okq (⟨"MaskLayers$Reader", "take", "(II)I"⟩, 5) := ⟨⟨by decide +kernel, by decide +kernel⟩, List.mem_of_getElem? (i := 131) (by decide +kernel), List.mem_of_getElem? (i := 213) (by decide +kernel), List.mem_of_getElem? (i := 214) (by decide +kernel)⟩
theorem lw_p2 : lw_okq (⟨"MaskLayers$Reader", "readStripe", "(I)Z"⟩, 5) := ⟨⟨by decide +kernel, by decide +kernel⟩, List.mem_of_getElem? (i := 131) (by decide +kernel), List.mem_of_getElem? (i := 228) (by decide +kernel), List.mem_of_getElem? (i := 229) (by decide +kernel)⟩
theorem lw_p3 : lw_okq (⟨"MaskLayers$Reader", "mayEnd", "(I)Z"⟩, 5) := ⟨⟨by decide +kernel, by decide +kernel⟩, List.mem_of_getElem? (i := 131) (by decide +kernel), List.mem_of_getElem? (i := 232) (by decide +kernel), List.mem_of_getElem? (i := 233) (by decide +kernel)⟩
theorem lw_p4 : lw_okq (⟨"MaskLayers$Reader", "refuse", "(I)Z"⟩, 5) := ⟨⟨by decide +kernel, by decide +kernel⟩, List.mem_of_getElem? (i := 131) (by decide +kernel), List.mem_of_getElem? (i := 240) (by decide +kernel), List.mem_of_getElem? (i := 241) (by decide +kernel)⟩
theorem lw_p5 : lw_okq (⟨"MaskLayers$Reader", "mayFollow", "(II)Z"⟩, 5) := ⟨⟨by decide +kernel, by decide +kernel⟩, List.mem_of_getElem? (i := 131) (by decide +kernel), List.mem_of_getElem? (i := 244) (by decide +kernel), List.mem_of_getElem? (i := 245) (by decide +kernel)⟩
theorem lw_p6 : lw_okq (⟨"MaskLayers$Reader", "readLayer", "(II)Z"⟩, 5) := ⟨⟨by decide +kernel, by decide +kernel⟩, List.mem_of_getElem? (i := 131) (by decide +kernel), List.mem_of_getElem? (i := 248) (by decide +kernel), List.mem_of_getElem? (i := 249) (by decide +kernel)⟩
theorem lw_p7 : lw_okq (⟨"MaskLayers$Reader", "readRuns", "(III)Z"⟩, 5) := ⟨⟨by decide +kernel, by decide +kernel⟩, List.mem_of_getElem? (i := 131) (by decide +kernel), List.mem_of_getElem? (i := 270) (by decide +kernel), List.mem_of_getElem? (i := 271) (by decide +kernel)⟩
theorem lw_p8 : lw_okq (⟨"MaskLayers$Reader", "takeValue", "(I)I"⟩, 5) := ⟨⟨by decide +kernel, by decide +kernel⟩, List.mem_of_getElem? (i := 131) (by decide +kernel), List.mem_of_getElem? (i := 275) (by decide +kernel), List.mem_of_getElem? (i := 276) (by decide +kernel)⟩
theorem lw_p9 : lw_okq (⟨"MaskLayers$Reader", "readBits", "(II)Z"⟩, 5) := ⟨⟨by decide +kernel, by decide +kernel⟩, List.mem_of_getElem? (i := 131) (by decide +kernel), List.mem_of_getElem? (i := 282) (by decide +kernel), List.mem_of_getElem? (i := 283) (by decide +kernel)⟩
theorem lw_p10 : lw_okq (⟨"MaskLayers$Reader", "readColours", "(III)Z"⟩, 5) := ⟨⟨by decide +kernel, by decide +kernel⟩, List.mem_of_getElem? (i := 131) (by decide +kernel), List.mem_of_getElem? (i := 286) (by decide +kernel), List.mem_of_getElem? (i := 287) (by decide +kernel)⟩
theorem lw_p11 : lw_okq (⟨"MaskLayers", "maskedSamples", "()I"⟩, 12) := ⟨⟨by decide +kernel, by decide +kernel⟩, List.mem_of_getElem? (i := 19) (by decide +kernel), List.mem_of_getElem? (i := 298) (by decide +kernel), List.mem_of_getElem? (i := 299) (by decide +kernel)⟩
theorem lw_p12 : lw_okq (⟨"MaskLayers", "hasSample", "(II)Z"⟩, 12) := ⟨⟨by decide +kernel, by decide +kernel⟩, List.mem_of_getElem? (i := 19) (by decide +kernel), List.mem_of_getElem? (i := 324) (by decide +kernel), List.mem_of_getElem? (i := 325) (by decide +kernel)⟩
theorem lw_p13 : lw_okq (⟨"java/lang/Throwable", "fillInStackTrace", "(I)Ljava/lang/Throwable;"⟩, 6) := ⟨⟨by decide +kernel, by decide +kernel⟩, List.mem_of_getElem? (i := 367) (by decide +kernel), List.mem_of_getElem? (i := 365) (by decide +kernel), List.mem_of_getElem? (i := 366) (by decide +kernel)⟩
theorem lw_p14 : lw_okq (⟨"MaskLayers", "change", "([IIIII)I"⟩, 12) := ⟨⟨by decide +kernel, by decide +kernel⟩, List.mem_of_getElem? (i := 19) (by decide +kernel), List.mem_of_getElem? (i := 414) (by decide +kernel), List.mem_of_getElem? (i := 415) (by decide +kernel)⟩
theorem lw_p15 : lw_okq (⟨"MaskLayers$Maker", "makeStripe", "(IZ)V"⟩, 4) := ⟨⟨by decide +kernel, by decide +kernel⟩, List.mem_of_getElem? (i := 99) (by decide +kernel), List.mem_of_getElem? (i := 450) (by decide +kernel), List.mem_of_getElem? (i := 451) (by decide +kernel)⟩
def lw_privs_1 : List (MethodName × Nat) := [(⟨"MaskLayers$Reader", "readHead", "()Z"⟩, 5), (⟨"MaskLayers$Reader", "take", "(II)I"⟩, 5), (⟨"MaskLayers$Reader", "readStripe", "(I)Z"⟩, 5), (⟨"MaskLayers$Reader", "mayEnd", "(I)Z"⟩, 5), (⟨"MaskLayers$Reader", "refuse", "(I)Z"⟩, 5), (⟨"MaskLayers$Reader", "mayFollow", "(II)Z"⟩, 5), (⟨"MaskLayers$Reader", "readLayer", "(II)Z"⟩, 5), (⟨"MaskLayers$Reader", "readRuns", "(III)Z"⟩, 5), (⟨"MaskLayers$Reader", "takeValue", "(I)I"⟩, 5), (⟨"MaskLayers$Reader", "readBits", "(II)Z"⟩, 5), (⟨"MaskLayers$Reader", "readColours", "(III)Z"⟩, 5), (⟨"MaskLayers", "maskedSamples", "()I"⟩, 12), (⟨"MaskLayers", "hasSample", "(II)Z"⟩, 12), (⟨"java/lang/Throwable", "fillInStackTrace", "(I)Ljava/lang/Throwable;"⟩, 6), (⟨"MaskLayers", "change", "([IIIII)I"⟩, 12), (⟨"MaskLayers$Maker", "makeStripe", "(IZ)V"⟩, 4)]
theorem lw_r1 : ∀ q ∈ lw_privs_1, lw_okq q := List.forall_mem_cons.mpr ⟨lw_p0, List.forall_mem_cons.mpr ⟨lw_p1, List.forall_mem_cons.mpr ⟨lw_p2, List.forall_mem_cons.mpr ⟨lw_p3, List.forall_mem_cons.mpr ⟨lw_p4, List.forall_mem_cons.mpr ⟨lw_p5, List.forall_mem_cons.mpr ⟨lw_p6, List.forall_mem_cons.mpr ⟨lw_p7, List.forall_mem_cons.mpr ⟨lw_p8, List.forall_mem_cons.mpr ⟨lw_p9, List.forall_mem_cons.mpr ⟨lw_p10, List.forall_mem_cons.mpr ⟨lw_p11, List.forall_mem_cons.mpr ⟨lw_p12, List.forall_mem_cons.mpr ⟨lw_p13, List.forall_mem_cons.mpr ⟨lw_p14, List.forall_mem_cons.mpr ⟨lw_p15, fun _ h => absurd h List.not_mem_nil⟩⟩⟩⟩⟩⟩⟩⟩⟩⟩⟩⟩⟩⟩⟩⟩
theorem lw_p16 : lw_okq (⟨"MaskLayers$Maker", "takeMask", "(I)I"⟩, 4) := ⟨⟨by decide +kernel, by decide +kernel⟩, List.mem_of_getElem? (i := 99) (by decide +kernel), List.mem_of_getElem? (i := 454) (by decide +kernel), List.mem_of_getElem? (i := 455) (by decide +kernel)⟩
theorem lw_p17 : lw_okq (⟨"MaskLayers$Maker", "makeBlocks", "(II)I"⟩, 4) := ⟨⟨by decide +kernel, by decide +kernel⟩, List.mem_of_getElem? (i := 99) (by decide +kernel), List.mem_of_getElem? (i := 460) (by decide +kernel), List.mem_of_getElem? (i := 461) (by decide +kernel)⟩
theorem lw_p18 : lw_okq (⟨"MaskLayers$Maker", "meanOfBlock", "(IIII)I"⟩, 4) := ⟨⟨by decide +kernel, by decide +kernel⟩, List.mem_of_getElem? (i := 99) (by decide +kernel), List.mem_of_getElem? (i := 465) (by decide +kernel), List.mem_of_getElem? (i := 466) (by decide +kernel)⟩
theorem lw_p19 : lw_okq (⟨"MaskLayers$Maker", "fillBlocks", "(III)V"⟩, 4) := ⟨⟨by decide +kernel, by decide +kernel⟩, List.mem_of_getElem? (i := 99) (by decide +kernel), List.mem_of_getElem? (i := 491) (by decide +kernel), List.mem_of_getElem? (i := 492) (by decide +kernel)⟩
theorem lw_p20 : lw_okq (⟨"MaskLayers$Maker", "makeRest", "(I)Z"⟩, 4) := ⟨⟨by decide +kernel, by decide +kernel⟩, List.mem_of_getElem? (i := 99) (by decide +kernel), List.mem_of_getElem? (i := 506) (by decide +kernel), List.mem_of_getElem? (i := 507) (by decide +kernel)⟩
theorem lw_p21 : lw_okq (⟨"MaskLayers$Writer", "writeHead", "()V"⟩, 2) := ⟨⟨by decide +kernel, by decide +kernel⟩, List.mem_of_getElem? (i := 118) (by decide +kernel), List.mem_of_getElem? (i := 594) (by decide +kernel), List.mem_of_getElem? (i := 595) (by decide +kernel)⟩
theorem lw_p22 : lw_okq (⟨"MaskLayers$Writer", "writeLayer", "(II)V"⟩, 2) := ⟨⟨by decide +kernel, by decide +kernel⟩, List.mem_of_getElem? (i := 118) (by decide +kernel), List.mem_of_getElem? (i := 623) (by decide +kernel), List.mem_of_getElem? (i := 624) (by decide +kernel)⟩
theorem lw_p23 : lw_okq (⟨"MaskLayers$Writer", "writeRuns", "(III)V"⟩, 2) := ⟨⟨by decide +kernel, by decide +kernel⟩, List.mem_of_getElem? (i := 118) (by decide +kernel), List.mem_of_getElem? (i := 637) (by decide +kernel), List.mem_of_getElem? (i := 638) (by decide +kernel)⟩
theorem lw_p24 : lw_okq (⟨"MaskLayers$Writer", "writeValue", "(II)V"⟩, 2) := ⟨⟨by decide +kernel, by decide +kernel⟩, List.mem_of_getElem? (i := 118) (by decide +kernel), List.mem_of_getElem? (i := 641) (by decide +kernel), List.mem_of_getElem? (i := 642) (by decide +kernel)⟩
theorem lw_p25 : lw_okq (⟨"MaskLayers$Writer", "writeBits", "(II)V"⟩, 2) := ⟨⟨by decide +kernel, by decide +kernel⟩, List.mem_of_getElem? (i := 118) (by decide +kernel), List.mem_of_getElem? (i := 648) (by decide +kernel), List.mem_of_getElem? (i := 649) (by decide +kernel)⟩
theorem lw_p26 : lw_okq (⟨"MaskLayers$Writer", "writeValues", "(III)V"⟩, 2) := ⟨⟨by decide +kernel, by decide +kernel⟩, List.mem_of_getElem? (i := 118) (by decide +kernel), List.mem_of_getElem? (i := 652) (by decide +kernel), List.mem_of_getElem? (i := 653) (by decide +kernel)⟩
theorem lw_p27 : lw_okq (⟨"MaskLayersModel", "isSample", "(II)Z"⟩, 30) := ⟨⟨by decide +kernel, by decide +kernel⟩, List.mem_of_getElem? (i := 739) (by decide +kernel), List.mem_of_getElem? (i := 845) (by decide +kernel), List.mem_of_getElem? (i := 846) (by decide +kernel)⟩
theorem lw_p28 : lw_okq (⟨"MaskLayersModel", "end", "(II)I"⟩, 30) := ⟨⟨by decide +kernel, by decide +kernel⟩, List.mem_of_getElem? (i := 739) (by decide +kernel), List.mem_of_getElem? (i := 850) (by decide +kernel), List.mem_of_getElem? (i := 851) (by decide +kernel)⟩
theorem lw_p29 : lw_okq (⟨"MaskLayersModel", "makeStripe", "(IZ)V"⟩, 30) := ⟨⟨by decide +kernel, by decide +kernel⟩, List.mem_of_getElem? (i := 739) (by decide +kernel), List.mem_of_getElem? (i := 869) (by decide +kernel), List.mem_of_getElem? (i := 870) (by decide +kernel)⟩
theorem lw_p30 : lw_okq (⟨"MaskLayersModel", "lay", "(IIII)V"⟩, 30) := ⟨⟨by decide +kernel, by decide +kernel⟩, List.mem_of_getElem? (i := 739) (by decide +kernel), List.mem_of_getElem? (i := 873) (by decide +kernel), List.mem_of_getElem? (i := 874) (by decide +kernel)⟩
theorem lw_p31 : lw_okq (⟨"MaskLayersModel", "makeBlocks", "(I)V"⟩, 30) := ⟨⟨by decide +kernel, by decide +kernel⟩, List.mem_of_getElem? (i := 739) (by decide +kernel), List.mem_of_getElem? (i := 877) (by decide +kernel), List.mem_of_getElem? (i := 878) (by decide +kernel)⟩
def lw_privs_2 : List (MethodName × Nat) := [(⟨"MaskLayers$Maker", "takeMask", "(I)I"⟩, 4), (⟨"MaskLayers$Maker", "makeBlocks", "(II)I"⟩, 4), (⟨"MaskLayers$Maker", "meanOfBlock", "(IIII)I"⟩, 4), (⟨"MaskLayers$Maker", "fillBlocks", "(III)V"⟩, 4), (⟨"MaskLayers$Maker", "makeRest", "(I)Z"⟩, 4), (⟨"MaskLayers$Writer", "writeHead", "()V"⟩, 2), (⟨"MaskLayers$Writer", "writeLayer", "(II)V"⟩, 2), (⟨"MaskLayers$Writer", "writeRuns", "(III)V"⟩, 2), (⟨"MaskLayers$Writer", "writeValue", "(II)V"⟩, 2), (⟨"MaskLayers$Writer", "writeBits", "(II)V"⟩, 2), (⟨"MaskLayers$Writer", "writeValues", "(III)V"⟩, 2), (⟨"MaskLayersModel", "isSample", "(II)Z"⟩, 30), (⟨"MaskLayersModel", "end", "(II)I"⟩, 30), (⟨"MaskLayersModel", "makeStripe", "(IZ)V"⟩, 30), (⟨"MaskLayersModel", "lay", "(IIII)V"⟩, 30), (⟨"MaskLayersModel", "makeBlocks", "(I)V"⟩, 30)]
theorem lw_r2 : ∀ q ∈ lw_privs_2, lw_okq q := List.forall_mem_cons.mpr ⟨lw_p16, List.forall_mem_cons.mpr ⟨lw_p17, List.forall_mem_cons.mpr ⟨lw_p18, List.forall_mem_cons.mpr ⟨lw_p19, List.forall_mem_cons.mpr ⟨lw_p20, List.forall_mem_cons.mpr ⟨lw_p21, List.forall_mem_cons.mpr ⟨lw_p22, List.forall_mem_cons.mpr ⟨lw_p23, List.forall_mem_cons.mpr ⟨lw_p24, List.forall_mem_cons.mpr ⟨lw_p25, List.forall_mem_cons.mpr ⟨lw_p26, List.forall_mem_cons.mpr ⟨lw_p27, List.forall_mem_cons.mpr ⟨lw_p28, List.forall_mem_cons.mpr ⟨lw_p29, List.forall_mem_cons.mpr ⟨lw_p30, List.forall_mem_cons.mpr ⟨lw_p31, fun _ h => absurd h List.not_mem_nil⟩⟩⟩⟩⟩⟩⟩⟩⟩⟩⟩⟩⟩⟩⟩⟩
theorem lw_p32 : lw_okq (⟨"MaskLayersModel", "count", "(I)I"⟩, 30) := ⟨⟨by decide +kernel, by decide +kernel⟩, List.mem_of_getElem? (i := 739) (by decide +kernel), List.mem_of_getElem? (i := 881) (by decide +kernel), List.mem_of_getElem? (i := 882) (by decide +kernel)⟩
theorem lw_p33 : lw_okq (⟨"MaskLayersModel", "across", "(I)I"⟩, 30) := ⟨⟨by decide +kernel, by decide +kernel⟩, List.mem_of_getElem? (i := 739) (by decide +kernel), List.mem_of_getElem? (i := 885) (by decide +kernel), List.mem_of_getElem? (i := 886) (by decide +kernel)⟩
theorem lw_p34 : lw_okq (⟨"MaskLayersModel", "scale", "(I)I"⟩, 30) := ⟨⟨by decide +kernel, by decide +kernel⟩, List.mem_of_getElem? (i := 739) (by decide +kernel), List.mem_of_getElem? (i := 889) (by decide +kernel), List.mem_of_getElem? (i := 890) (by decide +kernel)⟩
theorem lw_p35 : lw_okq (⟨"MaskLayersModel", "place", "(II)I"⟩, 30) := ⟨⟨by decide +kernel, by decide +kernel⟩, List.mem_of_getElem? (i := 739) (by decide +kernel), List.mem_of_getElem? (i := 893) (by decide +kernel), List.mem_of_getElem? (i := 894) (by decide +kernel)⟩
theorem lw_p36 : lw_okq (⟨"MaskLayersModel", "mean", "(III)I"⟩, 30) := ⟨⟨by decide +kernel, by decide +kernel⟩, List.mem_of_getElem? (i := 739) (by decide +kernel), List.mem_of_getElem? (i := 897) (by decide +kernel), List.mem_of_getElem? (i := 898) (by decide +kernel)⟩
theorem lw_p37 : lw_okq (⟨"MaskLayersModel", "joinedAt", "(II)I"⟩, 30) := ⟨⟨by decide +kernel, by decide +kernel⟩, List.mem_of_getElem? (i := 739) (by decide +kernel), List.mem_of_getElem? (i := 904) (by decide +kernel), List.mem_of_getElem? (i := 905) (by decide +kernel)⟩
theorem lw_p38 : lw_okq (⟨"MaskLayersModel", "masked0", "(II)Z"⟩, 30) := ⟨⟨by decide +kernel, by decide +kernel⟩, List.mem_of_getElem? (i := 739) (by decide +kernel), List.mem_of_getElem? (i := 908) (by decide +kernel), List.mem_of_getElem? (i := 909) (by decide +kernel)⟩
theorem lw_p39 : lw_okq (⟨"MaskLayersModel", "placeAt", "(III)I"⟩, 30) := ⟨⟨by decide +kernel, by decide +kernel⟩, List.mem_of_getElem? (i := 739) (by decide +kernel), List.mem_of_getElem? (i := 912) (by decide +kernel), List.mem_of_getElem? (i := 913) (by decide +kernel)⟩
theorem lw_p40 : lw_okq (⟨"MaskLayersModel", "refusal", "(II)I"⟩, 30) := ⟨⟨by decide +kernel, by decide +kernel⟩, List.mem_of_getElem? (i := 739) (by decide +kernel), List.mem_of_getElem? (i := 923) (by decide +kernel), List.mem_of_getElem? (i := 924) (by decide +kernel)⟩
theorem lw_p41 : lw_okq (⟨"MaskLayersModel", "layMade", "(I)I"⟩, 30) := ⟨⟨by decide +kernel, by decide +kernel⟩, List.mem_of_getElem? (i := 739) (by decide +kernel), List.mem_of_getElem? (i := 927) (by decide +kernel), List.mem_of_getElem? (i := 928) (by decide +kernel)⟩
theorem lw_p42 : lw_okq (⟨"MaskLayersModel", "out", "(I)V"⟩, 30) := ⟨⟨by decide +kernel, by decide +kernel⟩, List.mem_of_getElem? (i := 739) (by decide +kernel), List.mem_of_getElem? (i := 943) (by decide +kernel), List.mem_of_getElem? (i := 944) (by decide +kernel)⟩
theorem lw_p43 : lw_okq (⟨"MaskLayersModel", "outLayer", "(I)V"⟩, 30) := ⟨⟨by decide +kernel, by decide +kernel⟩, List.mem_of_getElem? (i := 739) (by decide +kernel), List.mem_of_getElem? (i := 947) (by decide +kernel), List.mem_of_getElem? (i := 948) (by decide +kernel)⟩
theorem lw_p44 : lw_okq (⟨"MaskLayersModel", "same", "(II)I"⟩, 30) := ⟨⟨by decide +kernel, by decide +kernel⟩, List.mem_of_getElem? (i := 739) (by decide +kernel), List.mem_of_getElem? (i := 951) (by decide +kernel), List.mem_of_getElem? (i := 952) (by decide +kernel)⟩
theorem lw_p45 : lw_okq (⟨"MaskLayersModel", "plainSize", "(I)I"⟩, 30) := ⟨⟨by decide +kernel, by decide +kernel⟩, List.mem_of_getElem? (i := 739) (by decide +kernel), List.mem_of_getElem? (i := 955) (by decide +kernel), List.mem_of_getElem? (i := 956) (by decide +kernel)⟩
theorem lw_p46 : lw_okq (⟨"MaskLayersModel", "outValue", "(II)V"⟩, 30) := ⟨⟨by decide +kernel, by decide +kernel⟩, List.mem_of_getElem? (i := 739) (by decide +kernel), List.mem_of_getElem? (i := 959) (by decide +kernel), List.mem_of_getElem? (i := 960) (by decide +kernel)⟩
theorem lw_p47 : lw_okq (⟨"MaskLayersModel", "takeIn", "(II)I"⟩, 30) := ⟨⟨by decide +kernel, by decide +kernel⟩, List.mem_of_getElem? (i := 739) (by decide +kernel), List.mem_of_getElem? (i := 983) (by decide +kernel), List.mem_of_getElem? (i := 984) (by decide +kernel)⟩
def lw_privs_3 : List (MethodName × Nat) := [(⟨"MaskLayersModel", "count", "(I)I"⟩, 30), (⟨"MaskLayersModel", "across", "(I)I"⟩, 30), (⟨"MaskLayersModel", "scale", "(I)I"⟩, 30), (⟨"MaskLayersModel", "place", "(II)I"⟩, 30), (⟨"MaskLayersModel", "mean", "(III)I"⟩, 30), (⟨"MaskLayersModel", "joinedAt", "(II)I"⟩, 30), (⟨"MaskLayersModel", "masked0", "(II)Z"⟩, 30), (⟨"MaskLayersModel", "placeAt", "(III)I"⟩, 30), (⟨"MaskLayersModel", "refusal", "(II)I"⟩, 30), (⟨"MaskLayersModel", "layMade", "(I)I"⟩, 30), (⟨"MaskLayersModel", "out", "(I)V"⟩, 30), (⟨"MaskLayersModel", "outLayer", "(I)V"⟩, 30), (⟨"MaskLayersModel", "same", "(II)I"⟩, 30), (⟨"MaskLayersModel", "plainSize", "(I)I"⟩, 30), (⟨"MaskLayersModel", "outValue", "(II)V"⟩, 30), (⟨"MaskLayersModel", "takeIn", "(II)I"⟩, 30)]
theorem lw_r3 : ∀ q ∈ lw_privs_3, lw_okq q := List.forall_mem_cons.mpr ⟨lw_p32, List.forall_mem_cons.mpr ⟨lw_p33, List.forall_mem_cons.mpr ⟨lw_p34, List.forall_mem_cons.mpr ⟨lw_p35, List.forall_mem_cons.mpr ⟨lw_p36, List.forall_mem_cons.mpr ⟨lw_p37, List.forall_mem_cons.mpr ⟨lw_p38, List.forall_mem_cons.mpr ⟨lw_p39, List.forall_mem_cons.mpr ⟨lw_p40, List.forall_mem_cons.mpr ⟨lw_p41, List.forall_mem_cons.mpr ⟨lw_p42, List.forall_mem_cons.mpr ⟨lw_p43, List.forall_mem_cons.mpr ⟨lw_p44, List.forall_mem_cons.mpr ⟨lw_p45, List.forall_mem_cons.mpr ⟨lw_p46, List.forall_mem_cons.mpr ⟨lw_p47, fun _ h => absurd h List.not_mem_nil⟩⟩⟩⟩⟩⟩⟩⟩⟩⟩⟩⟩⟩⟩⟩⟩
theorem lw_p48 : lw_okq (⟨"MaskLayersModel", "take", "()I"⟩, 30) := ⟨⟨by decide +kernel, by decide +kernel⟩, List.mem_of_getElem? (i := 739) (by decide +kernel), List.mem_of_getElem? (i := 987) (by decide +kernel), List.mem_of_getElem? (i := 988) (by decide +kernel)⟩
theorem lw_p49 : lw_okq (⟨"MaskLayersModel", "refuse", "(I)V"⟩, 30) := ⟨⟨by decide +kernel, by decide +kernel⟩, List.mem_of_getElem? (i := 739) (by decide +kernel), List.mem_of_getElem? (i := 991) (by decide +kernel), List.mem_of_getElem? (i := 992) (by decide +kernel)⟩
theorem lw_p50 : lw_okq (⟨"MaskLayersModel", "takeStripe", "()I"⟩, 30) := ⟨⟨by decide +kernel, by decide +kernel⟩, List.mem_of_getElem? (i := 739) (by decide +kernel), List.mem_of_getElem? (i := 995) (by decide +kernel), List.mem_of_getElem? (i := 996) (by decide +kernel)⟩
theorem lw_p51 : lw_okq (⟨"MaskLayersModel", "takeLayer", "(I)V"⟩, 30) := ⟨⟨by decide +kernel, by decide +kernel⟩, List.mem_of_getElem? (i := 739) (by decide +kernel), List.mem_of_getElem? (i := 999) (by decide +kernel), List.mem_of_getElem? (i := 1000) (by decide +kernel)⟩
theorem lw_p52 : lw_okq (⟨"MaskLayersModel", "takePlain", "(I)V"⟩, 30) := ⟨⟨by decide +kernel, by decide +kernel⟩, List.mem_of_getElem? (i := 739) (by decide +kernel), List.mem_of_getElem? (i := 1003) (by decide +kernel), List.mem_of_getElem? (i := 1004) (by decide +kernel)⟩
theorem lw_p53 : lw_okq (⟨"MaskLayersModel", "takeValue", "(I)I"⟩, 30) := ⟨⟨by decide +kernel, by decide +kernel⟩, List.mem_of_getElem? (i := 739) (by decide +kernel), List.mem_of_getElem? (i := 1007) (by decide +kernel), List.mem_of_getElem? (i := 1008) (by decide +kernel)⟩
theorem lw_p54 : lw_okq (⟨"MaskLayersModel", "takeRuns", "(I)V"⟩, 30) := ⟨⟨by decide +kernel, by decide +kernel⟩, List.mem_of_getElem? (i := 739) (by decide +kernel), List.mem_of_getElem? (i := 1011) (by decide +kernel), List.mem_of_getElem? (i := 1012) (by decide +kernel)⟩
theorem lw_p55 : lw_okq (⟨"MaskLayersModel", "joinStripe", "()V"⟩, 30) := ⟨⟨by decide +kernel, by decide +kernel⟩, List.mem_of_getElem? (i := 739) (by decide +kernel), List.mem_of_getElem? (i := 1015) (by decide +kernel), List.mem_of_getElem? (i := 1016) (by decide +kernel)⟩
def lw_privs_4 : List (MethodName × Nat) := [(⟨"MaskLayersModel", "take", "()I"⟩, 30), (⟨"MaskLayersModel", "refuse", "(I)V"⟩, 30), (⟨"MaskLayersModel", "takeStripe", "()I"⟩, 30), (⟨"MaskLayersModel", "takeLayer", "(I)V"⟩, 30), (⟨"MaskLayersModel", "takePlain", "(I)V"⟩, 30), (⟨"MaskLayersModel", "takeValue", "(I)I"⟩, 30), (⟨"MaskLayersModel", "takeRuns", "(I)V"⟩, 30), (⟨"MaskLayersModel", "joinStripe", "()V"⟩, 30)]
theorem lw_r4 : ∀ q ∈ lw_privs_4, lw_okq q := List.forall_mem_cons.mpr ⟨lw_p48, List.forall_mem_cons.mpr ⟨lw_p49, List.forall_mem_cons.mpr ⟨lw_p50, List.forall_mem_cons.mpr ⟨lw_p51, List.forall_mem_cons.mpr ⟨lw_p52, List.forall_mem_cons.mpr ⟨lw_p53, List.forall_mem_cons.mpr ⟨lw_p54, List.forall_mem_cons.mpr ⟨lw_p55, fun _ h => absurd h List.not_mem_nil⟩⟩⟩⟩⟩⟩⟩⟩
def lw_privs : List (MethodName × Nat) := lw_privs_1 ++ (lw_privs_2 ++ (lw_privs_3 ++ (lw_privs_4)))
def lw_tbl : List Cond := k2_sels lw_privs ++ tables_1
theorem lw_privs_ok : ∀ q ∈ lw_privs, lw_okq q := by
  show ∀ q ∈ lw_privs_1 ++ (lw_privs_2 ++ (lw_privs_3 ++ (lw_privs_4))), lw_okq q
  exact List.forall_mem_append.mpr ⟨lw_r1, List.forall_mem_append.mpr ⟨lw_r2, List.forall_mem_append.mpr ⟨lw_r3, lw_r4⟩⟩⟩
end
section
def BIG : List Cond := lw_tbl.filter goodWord
theorem mb {w : Cond} (h : w ∈ lw_tbl) (g : goodWord w = true) : w ∈ BIG := List.mem_filter.mpr ⟨h, g⟩
theorem big_good : ∀ w ∈ BIG, (w.onTables && w.keeps) = true ∨ ∃ ty, w = .arrayClass ty := fun _ h => good_of_word (List.mem_filter.mp h).2
def isNest : Cond → Bool
  | .fieldLinkNest .. => true
  | .methodLinkNest .. => true
  | _ => false
def NWL : List Cond := lw_tbl.filter isNest
def NW (U : State) : Prop := ∀ w ∈ NWL, va_Nw w U
theorem nwm {w : Cond} (h : w ∈ lw_tbl) (g : isNest w = true) : w ∈ NWL := List.mem_filter.mpr ⟨h, g⟩
theorem NW.moved {u U : State} (hW : u.WarmedH U.vm) (h : NW u) : NW U := fun w hw => by
  have hz := h w hw
  have hn := (List.mem_filter.mp hw).2
  cases w <;> first | (simp [isNest] at hn; done) | exact va_Nw.warmF hW hz | exact va_Nw.warmM hW hz
theorem NW.same {u U : State} (hvm : u.vm = U.vm) (h : NW u) : NW U := fun w hw => by
  have hz := h w hw
  have hn := (List.mem_filter.mp hw).2
  cases w <;> first | (simp [isNest] at hn; done) | exact va_Nw.same rfl hvm hz
def cn0 : String := "MaskLayers$ByteRow"
def cf0 : u_T := fun k => match k with
  | 0 => ("MaskLayers$ByteRow", "row", "[I", false)
  | _ => ("MaskLayers$ByteRow", "count", "I", false)
def ct0 : Nat → FieldType := fun k => match k with
  | 0 => .array .int
  | _ => .int
theorem ce0 : ∀ a, a < 2 → ∀ b, b < 2 → a ≠ b → (cf0 a).2.1 ≠ (cf0 b).2.1 := by decide +kernel
theorem cg0 : ∀ k, k < 2 → parseFieldDescriptor (cf0 k).2.2.1 = some (ct0 k) := by decide +kernel
theorem ch0 : ∀ w ∈ u_ws cn0 cf0 2, w ∈ BIG := fun w h => mb ((by decide +kernel : ∀ w ∈ u_ws cn0 cf0 2, w ∈ lw_tbl) w h) ((by decide +kernel : ∀ w ∈ u_ws cn0 cf0 2, goodWord w = true) w h)
def cn1 : String := "MaskLayers$Layers"
def cf1 : u_T := fun k => match k with
  | 0 => ("MaskLayers$Layers", "values", "[[I", true)
  | 1 => ("MaskLayers$Layers", "there", "[I", true)
  | 2 => ("MaskLayers$Layers", "scales", "[I", true)
  | 3 => ("MaskLayers$Layers", "columns", "[I", true)
  | 4 => ("MaskLayers$Layers", "width", "I", false)
  | 5 => ("MaskLayers$Layers", "height", "I", false)
  | 6 => ("MaskLayers$Layers", "step", "I", false)
  | _ => ("MaskLayers$Layers", "count", "I", false)
def ct1 : Nat → FieldType := fun k => match k with
  | 0 => .array (.array .int)
  | 1 => .array .int
  | 2 => .array .int
  | 3 => .array .int
  | 4 => .int
  | 5 => .int
  | 6 => .int
  | _ => .int
theorem ce1 : ∀ a, a < 8 → ∀ b, b < 8 → a ≠ b → (cf1 a).2.1 ≠ (cf1 b).2.1 := by decide +kernel
theorem cg1 : ∀ k, k < 8 → parseFieldDescriptor (cf1 k).2.2.1 = some (ct1 k) := by decide +kernel
theorem ch1 : ∀ w ∈ u_ws cn1 cf1 8, w ∈ BIG := fun w h => mb ((by decide +kernel : ∀ w ∈ u_ws cn1 cf1 8, w ∈ lw_tbl) w h) ((by decide +kernel : ∀ w ∈ u_ws cn1 cf1 8, goodWord w = true) w h)
def cn2 : String := "MaskLayers$Maker"
def cf2 : u_T := fun k => match k with
  | 0 => ("MaskLayers$Maker", "layers", "LMaskLayers$Layers;", true)
  | 1 => ("MaskLayers$Maker", "colours", "[I", true)
  | 2 => ("MaskLayers$Maker", "masked", "[I", true)
  | _ => ("MaskLayers$Maker", "bare", "[I", true)
def ct2 : Nat → FieldType := fun k => match k with
  | 0 => .object "MaskLayers$Layers"
  | 1 => .array .int
  | 2 => .array .int
  | _ => .array .int
theorem ce2 : ∀ a, a < 4 → ∀ b, b < 4 → a ≠ b → (cf2 a).2.1 ≠ (cf2 b).2.1 := by decide +kernel
theorem cg2 : ∀ k, k < 4 → parseFieldDescriptor (cf2 k).2.2.1 = some (ct2 k) := by decide +kernel
theorem ch2 : ∀ w ∈ u_ws cn2 cf2 4, w ∈ BIG := fun w h => mb ((by decide +kernel : ∀ w ∈ u_ws cn2 cf2 4, w ∈ lw_tbl) w h) ((by decide +kernel : ∀ w ∈ u_ws cn2 cf2 4, goodWord w = true) w h)
def cn3 : String := "MaskLayers$Reader"
def cf3 : u_T := fun k => match k with
  | 0 => ("MaskLayers$Reader", "bytes", "LMaskLayers$ByteRow;", true)
  | 1 => ("MaskLayers$Reader", "layers", "LMaskLayers$Layers;", true)
  | 2 => ("MaskLayers$Reader", "head", "[I", true)
  | 3 => ("MaskLayers$Reader", "place", "I", false)
  | _ => ("MaskLayers$Reader", "refusedAt", "I", false)
def ct3 : Nat → FieldType := fun k => match k with
  | 0 => .object "MaskLayers$ByteRow"
  | 1 => .object "MaskLayers$Layers"
  | 2 => .array .int
  | 3 => .int
  | _ => .int
theorem ce3 : ∀ a, a < 5 → ∀ b, b < 5 → a ≠ b → (cf3 a).2.1 ≠ (cf3 b).2.1 := by decide +kernel
theorem cg3 : ∀ k, k < 5 → parseFieldDescriptor (cf3 k).2.2.1 = some (ct3 k) := by decide +kernel
theorem ch3 : ∀ w ∈ u_ws cn3 cf3 5, w ∈ BIG := fun w h => mb ((by decide +kernel : ∀ w ∈ u_ws cn3 cf3 5, w ∈ lw_tbl) w h) ((by decide +kernel : ∀ w ∈ u_ws cn3 cf3 5, goodWord w = true) w h)
def cn4 : String := "MaskLayers$Writer"
def cf4 : u_T := fun k => match k with
  | 0 => ("MaskLayers$Writer", "layers", "LMaskLayers$Layers;", true)
  | _ => ("MaskLayers$Writer", "bytes", "LMaskLayers$ByteRow;", true)
def ct4 : Nat → FieldType := fun k => match k with
  | 0 => .object "MaskLayers$Layers"
  | _ => .object "MaskLayers$ByteRow"
theorem ce4 : ∀ a, a < 2 → ∀ b, b < 2 → a ≠ b → (cf4 a).2.1 ≠ (cf4 b).2.1 := by decide +kernel
theorem cg4 : ∀ k, k < 2 → parseFieldDescriptor (cf4 k).2.2.1 = some (ct4 k) := by decide +kernel
theorem ch4 : ∀ w ∈ u_ws cn4 cf4 2, w ∈ BIG := fun w h => mb ((by decide +kernel : ∀ w ∈ u_ws cn4 cf4 2, w ∈ lw_tbl) w h) ((by decide +kernel : ∀ w ∈ u_ws cn4 cf4 2, goodWord w = true) w h)
def cn5 : String := "MaskLayers"
def cf5 : u_T := fun k => match k with
  | 0 => ("MaskLayers", "width", "I", true)
  | 1 => ("MaskLayers", "height", "I", true)
  | 2 => ("MaskLayers", "colours", "[I", true)
  | 3 => ("MaskLayers", "masked", "[I", true)
  | 4 => ("MaskLayers", "made", "LMaskLayers$Layers;", true)
  | 5 => ("MaskLayers", "found", "LMaskLayers$Layers;", true)
  | 6 => ("MaskLayers", "written", "LMaskLayers$ByteRow;", true)
  | 7 => ("MaskLayers", "fed", "LMaskLayers$ByteRow;", true)
  | 8 => ("MaskLayers", "maker", "LMaskLayers$Maker;", true)
  | 9 => ("MaskLayers", "writer", "LMaskLayers$Writer;", true)
  | 10 => ("MaskLayers", "reader", "LMaskLayers$Reader;", true)
  | _ => ("MaskLayers", "step", "I", false)
def ct5 : Nat → FieldType := fun k => match k with
  | 0 => .int
  | 1 => .int
  | 2 => .array .int
  | 3 => .array .int
  | 4 => .object "MaskLayers$Layers"
  | 5 => .object "MaskLayers$Layers"
  | 6 => .object "MaskLayers$ByteRow"
  | 7 => .object "MaskLayers$ByteRow"
  | 8 => .object "MaskLayers$Maker"
  | 9 => .object "MaskLayers$Writer"
  | 10 => .object "MaskLayers$Reader"
  | _ => .int
theorem ce5 : ∀ a, a < 12 → ∀ b, b < 12 → a ≠ b → (cf5 a).2.1 ≠ (cf5 b).2.1 := by decide +kernel
theorem cg5 : ∀ k, k < 12 → parseFieldDescriptor (cf5 k).2.2.1 = some (ct5 k) := by decide +kernel
theorem ch5 : ∀ w ∈ u_ws cn5 cf5 12, w ∈ BIG := fun w h => mb ((by decide +kernel : ∀ w ∈ u_ws cn5 cf5 12, w ∈ lw_tbl) w h) ((by decide +kernel : ∀ w ∈ u_ws cn5 cf5 12, goodWord w = true) w h)
abbrev vwCl : List vw_C := [(cn0, cf0, 2), (cn1, cf1, 8), (cn2, cf2, 4), (cn3, cf3, 5), (cn4, cf4, 2), (cn5, cf5, 12)]
end
section
abbrev b_ML_isByte : ByteArray := prog_1_method_21_code
def y_ML_isByte : MethodName := ⟨"MaskLayers", "isByte", "(I)Z"⟩
theorem d_ML_isByte_0 : decode b_ML_isByte 0 = .ok (.iload_n 0, 1) := by decide +kernel
theorem d_ML_isByte_1 : decode b_ML_isByte 1 = .ok (.ifCond .lt 14, 3) := by decide +kernel
theorem d_ML_isByte_4 : decode b_ML_isByte 4 = .ok (.iload_n 0, 1) := by decide +kernel
theorem d_ML_isByte_5 : decode b_ML_isByte 5 = .ok (.sipush 255, 3) := by decide +kernel
theorem d_ML_isByte_8 : decode b_ML_isByte 8 = .ok (.if_icmp .gt 7, 3) := by decide +kernel
theorem d_ML_isByte_11 : decode b_ML_isByte 11 = .ok (.iconst 1, 1) := by decide +kernel
theorem d_ML_isByte_12 : decode b_ML_isByte 12 = .ok (.goto 4, 3) := by decide +kernel
theorem d_ML_isByte_15 : decode b_ML_isByte 15 = .ok (.iconst 0, 1) := by decide +kernel
theorem d_ML_isByte_16 : decode b_ML_isByte 16 = .ok (.ireturn, 1) := by decide +kernel
abbrev b_ML_parts : ByteArray := prog_1_method_22_code
def y_ML_parts : MethodName := ⟨"MaskLayers", "parts", "(II)I"⟩
theorem d_ML_parts_0 : decode b_ML_parts 0 = .ok (.iload_n 1, 1) := by decide +kernel
theorem d_ML_parts_1 : decode b_ML_parts 1 = .ok (.iconst 1, 1) := by decide +kernel
theorem d_ML_parts_2 : decode b_ML_parts 2 = .ok (.if_icmp .ge 7, 3) := by decide +kernel
theorem d_ML_parts_5 : decode b_ML_parts 5 = .ok (.iconst 0, 1) := by decide +kernel
theorem d_ML_parts_6 : decode b_ML_parts 6 = .ok (.goto 10, 3) := by decide +kernel
theorem d_ML_parts_9 : decode b_ML_parts 9 = .ok (.iload_n 0, 1) := by decide +kernel
theorem d_ML_parts_10 : decode b_ML_parts 10 = .ok (.iload_n 1, 1) := by decide +kernel
theorem d_ML_parts_11 : decode b_ML_parts 11 = .ok (.iadd, 1) := by decide +kernel
theorem d_ML_parts_12 : decode b_ML_parts 12 = .ok (.iconst 1, 1) := by decide +kernel
theorem d_ML_parts_13 : decode b_ML_parts 13 = .ok (.isub, 1) := by decide +kernel
theorem d_ML_parts_14 : decode b_ML_parts 14 = .ok (.iload_n 1, 1) := by decide +kernel
theorem d_ML_parts_15 : decode b_ML_parts 15 = .ok (.idiv, 1) := by decide +kernel
theorem d_ML_parts_16 : decode b_ML_parts 16 = .ok (.ireturn, 1) := by decide +kernel
abbrev b_ML_red : ByteArray := prog_1_method_23_code
def y_ML_red : MethodName := ⟨"MaskLayers", "red", "(I)I"⟩
theorem d_ML_red_0 : decode b_ML_red 0 = .ok (.iload_n 0, 1) := by decide +kernel
theorem d_ML_red_1 : decode b_ML_red 1 = .ok (.bipush 16, 2) := by decide +kernel
theorem d_ML_red_3 : decode b_ML_red 3 = .ok (.ishr, 1) := by decide +kernel
theorem d_ML_red_4 : decode b_ML_red 4 = .ok (.sipush 255, 3) := by decide +kernel
theorem d_ML_red_7 : decode b_ML_red 7 = .ok (.iand, 1) := by decide +kernel
theorem d_ML_red_8 : decode b_ML_red 8 = .ok (.ireturn, 1) := by decide +kernel
abbrev b_ML_green : ByteArray := prog_1_method_24_code
def y_ML_green : MethodName := ⟨"MaskLayers", "green", "(I)I"⟩
theorem d_ML_green_0 : decode b_ML_green 0 = .ok (.iload_n 0, 1) := by decide +kernel
theorem d_ML_green_1 : decode b_ML_green 1 = .ok (.bipush 8, 2) := by decide +kernel
theorem d_ML_green_3 : decode b_ML_green 3 = .ok (.ishr, 1) := by decide +kernel
theorem d_ML_green_4 : decode b_ML_green 4 = .ok (.sipush 255, 3) := by decide +kernel
theorem d_ML_green_7 : decode b_ML_green 7 = .ok (.iand, 1) := by decide +kernel
theorem d_ML_green_8 : decode b_ML_green 8 = .ok (.ireturn, 1) := by decide +kernel
abbrev b_ML_blue : ByteArray := prog_1_method_25_code
def y_ML_blue : MethodName := ⟨"MaskLayers", "blue", "(I)I"⟩
theorem d_ML_blue_0 : decode b_ML_blue 0 = .ok (.iload_n 0, 1) := by decide +kernel
theorem d_ML_blue_1 : decode b_ML_blue 1 = .ok (.sipush 255, 3) := by decide +kernel
theorem d_ML_blue_4 : decode b_ML_blue 4 = .ok (.iand, 1) := by decide +kernel
theorem d_ML_blue_5 : decode b_ML_blue 5 = .ok (.ireturn, 1) := by decide +kernel
abbrev b_ML_colourOf : ByteArray := prog_1_method_26_code
def y_ML_colourOf : MethodName := ⟨"MaskLayers", "colourOf", "(III)I"⟩
theorem d_ML_colourOf_0 : decode b_ML_colourOf 0 = .ok (.iload_n 0, 1) := by decide +kernel
theorem d_ML_colourOf_1 : decode b_ML_colourOf 1 = .ok (.sipush 255, 3) := by decide +kernel
theorem d_ML_colourOf_4 : decode b_ML_colourOf 4 = .ok (.iand, 1) := by decide +kernel
theorem d_ML_colourOf_5 : decode b_ML_colourOf 5 = .ok (.bipush 16, 2) := by decide +kernel
theorem d_ML_colourOf_7 : decode b_ML_colourOf 7 = .ok (.ishl, 1) := by decide +kernel
theorem d_ML_colourOf_8 : decode b_ML_colourOf 8 = .ok (.iload_n 1, 1) := by decide +kernel
theorem d_ML_colourOf_9 : decode b_ML_colourOf 9 = .ok (.sipush 255, 3) := by decide +kernel
theorem d_ML_colourOf_12 : decode b_ML_colourOf 12 = .ok (.iand, 1) := by decide +kernel
theorem d_ML_colourOf_13 : decode b_ML_colourOf 13 = .ok (.bipush 8, 2) := by decide +kernel
theorem d_ML_colourOf_15 : decode b_ML_colourOf 15 = .ok (.ishl, 1) := by decide +kernel
theorem d_ML_colourOf_16 : decode b_ML_colourOf 16 = .ok (.ior, 1) := by decide +kernel
theorem d_ML_colourOf_17 : decode b_ML_colourOf 17 = .ok (.iload_n 2, 1) := by decide +kernel
theorem d_ML_colourOf_18 : decode b_ML_colourOf 18 = .ok (.sipush 255, 3) := by decide +kernel
theorem d_ML_colourOf_21 : decode b_ML_colourOf 21 = .ok (.iand, 1) := by decide +kernel
theorem d_ML_colourOf_22 : decode b_ML_colourOf 22 = .ok (.ior, 1) := by decide +kernel
theorem d_ML_colourOf_23 : decode b_ML_colourOf 23 = .ok (.ireturn, 1) := by decide +kernel
abbrev b_ML_sum : ByteArray := prog_1_method_27_code
def y_ML_sum : MethodName := ⟨"MaskLayers", "sum", "(II)I"⟩
theorem d_ML_sum_0 : decode b_ML_sum 0 = .ok (.iload_n 0, 1) := by decide +kernel
theorem d_ML_sum_1 : decode b_ML_sum 1 = .ok (.invokestatic 206, 3) := by decide +kernel
theorem d_ML_sum_4 : decode b_ML_sum 4 = .ok (.iload_n 1, 1) := by decide +kernel
theorem d_ML_sum_5 : decode b_ML_sum 5 = .ok (.invokestatic 206, 3) := by decide +kernel
theorem d_ML_sum_8 : decode b_ML_sum 8 = .ok (.iadd, 1) := by decide +kernel
theorem d_ML_sum_9 : decode b_ML_sum 9 = .ok (.iload_n 0, 1) := by decide +kernel
theorem d_ML_sum_10 : decode b_ML_sum 10 = .ok (.invokestatic 209, 3) := by decide +kernel
theorem d_ML_sum_13 : decode b_ML_sum 13 = .ok (.iload_n 1, 1) := by decide +kernel
theorem d_ML_sum_14 : decode b_ML_sum 14 = .ok (.invokestatic 209, 3) := by decide +kernel
theorem d_ML_sum_17 : decode b_ML_sum 17 = .ok (.iadd, 1) := by decide +kernel
theorem d_ML_sum_18 : decode b_ML_sum 18 = .ok (.iload_n 0, 1) := by decide +kernel
theorem d_ML_sum_19 : decode b_ML_sum 19 = .ok (.invokestatic 212, 3) := by decide +kernel
theorem d_ML_sum_22 : decode b_ML_sum 22 = .ok (.iload_n 1, 1) := by decide +kernel
theorem d_ML_sum_23 : decode b_ML_sum 23 = .ok (.invokestatic 212, 3) := by decide +kernel
theorem d_ML_sum_26 : decode b_ML_sum 26 = .ok (.iadd, 1) := by decide +kernel
theorem d_ML_sum_27 : decode b_ML_sum 27 = .ok (.invokestatic 215, 3) := by decide +kernel
theorem d_ML_sum_30 : decode b_ML_sum 30 = .ok (.ireturn, 1) := by decide +kernel
abbrev b_ML_difference : ByteArray := prog_1_method_28_code
def y_ML_difference : MethodName := ⟨"MaskLayers", "difference", "(II)I"⟩
theorem d_ML_difference_0 : decode b_ML_difference 0 = .ok (.iload_n 0, 1) := by decide +kernel
theorem d_ML_difference_1 : decode b_ML_difference 1 = .ok (.invokestatic 206, 3) := by decide +kernel
theorem d_ML_difference_4 : decode b_ML_difference 4 = .ok (.iload_n 1, 1) := by decide +kernel
theorem d_ML_difference_5 : decode b_ML_difference 5 = .ok (.invokestatic 206, 3) := by decide +kernel
theorem d_ML_difference_8 : decode b_ML_difference 8 = .ok (.isub, 1) := by decide +kernel
theorem d_ML_difference_9 : decode b_ML_difference 9 = .ok (.iload_n 0, 1) := by decide +kernel
theorem d_ML_difference_10 : decode b_ML_difference 10 = .ok (.invokestatic 209, 3) := by decide +kernel
theorem d_ML_difference_13 : decode b_ML_difference 13 = .ok (.iload_n 1, 1) := by decide +kernel
theorem d_ML_difference_14 : decode b_ML_difference 14 = .ok (.invokestatic 209, 3) := by decide +kernel
theorem d_ML_difference_17 : decode b_ML_difference 17 = .ok (.isub, 1) := by decide +kernel
theorem d_ML_difference_18 : decode b_ML_difference 18 = .ok (.iload_n 0, 1) := by decide +kernel
theorem d_ML_difference_19 : decode b_ML_difference 19 = .ok (.invokestatic 212, 3) := by decide +kernel
theorem d_ML_difference_22 : decode b_ML_difference 22 = .ok (.iload_n 1, 1) := by decide +kernel
theorem d_ML_difference_23 : decode b_ML_difference 23 = .ok (.invokestatic 212, 3) := by decide +kernel
theorem d_ML_difference_26 : decode b_ML_difference 26 = .ok (.isub, 1) := by decide +kernel
theorem d_ML_difference_27 : decode b_ML_difference 27 = .ok (.invokestatic 215, 3) := by decide +kernel
theorem d_ML_difference_30 : decode b_ML_difference 30 = .ok (.ireturn, 1) := by decide +kernel
abbrev b_ML_middle : ByteArray := prog_1_method_29_code
def y_ML_middle : MethodName := ⟨"MaskLayers", "middle", "(II)I"⟩
theorem d_ML_middle_0 : decode b_ML_middle 0 = .ok (.iload_n 0, 1) := by decide +kernel
theorem d_ML_middle_1 : decode b_ML_middle 1 = .ok (.invokestatic 206, 3) := by decide +kernel
theorem d_ML_middle_4 : decode b_ML_middle 4 = .ok (.iload_n 1, 1) := by decide +kernel
theorem d_ML_middle_5 : decode b_ML_middle 5 = .ok (.invokestatic 206, 3) := by decide +kernel
theorem d_ML_middle_8 : decode b_ML_middle 8 = .ok (.iadd, 1) := by decide +kernel
theorem d_ML_middle_9 : decode b_ML_middle 9 = .ok (.iconst 2, 1) := by decide +kernel
theorem d_ML_middle_10 : decode b_ML_middle 10 = .ok (.idiv, 1) := by decide +kernel
theorem d_ML_middle_11 : decode b_ML_middle 11 = .ok (.iload_n 0, 1) := by decide +kernel
theorem d_ML_middle_12 : decode b_ML_middle 12 = .ok (.invokestatic 209, 3) := by decide +kernel
theorem d_ML_middle_15 : decode b_ML_middle 15 = .ok (.iload_n 1, 1) := by decide +kernel
theorem d_ML_middle_16 : decode b_ML_middle 16 = .ok (.invokestatic 209, 3) := by decide +kernel
theorem d_ML_middle_19 : decode b_ML_middle 19 = .ok (.iadd, 1) := by decide +kernel
theorem d_ML_middle_20 : decode b_ML_middle 20 = .ok (.iconst 2, 1) := by decide +kernel
theorem d_ML_middle_21 : decode b_ML_middle 21 = .ok (.idiv, 1) := by decide +kernel
theorem d_ML_middle_22 : decode b_ML_middle 22 = .ok (.iload_n 0, 1) := by decide +kernel
theorem d_ML_middle_23 : decode b_ML_middle 23 = .ok (.invokestatic 212, 3) := by decide +kernel
theorem d_ML_middle_26 : decode b_ML_middle 26 = .ok (.iload_n 1, 1) := by decide +kernel
theorem d_ML_middle_27 : decode b_ML_middle 27 = .ok (.invokestatic 212, 3) := by decide +kernel
theorem d_ML_middle_30 : decode b_ML_middle 30 = .ok (.iadd, 1) := by decide +kernel
theorem d_ML_middle_31 : decode b_ML_middle 31 = .ok (.iconst 2, 1) := by decide +kernel
theorem d_ML_middle_32 : decode b_ML_middle 32 = .ok (.idiv, 1) := by decide +kernel
theorem d_ML_middle_33 : decode b_ML_middle 33 = .ok (.invokestatic 215, 3) := by decide +kernel
theorem d_ML_middle_36 : decode b_ML_middle 36 = .ok (.ireturn, 1) := by decide +kernel
abbrev b_ML_mean : ByteArray := prog_1_method_30_code
def y_ML_mean : MethodName := ⟨"MaskLayers", "mean", "(II)I"⟩
theorem d_ML_mean_0 : decode b_ML_mean 0 = .ok (.iload_n 1, 1) := by decide +kernel
theorem d_ML_mean_1 : decode b_ML_mean 1 = .ok (.iconst 1, 1) := by decide +kernel
theorem d_ML_mean_2 : decode b_ML_mean 2 = .ok (.if_icmp .ge 7, 3) := by decide +kernel
theorem d_ML_mean_5 : decode b_ML_mean 5 = .ok (.iconst 0, 1) := by decide +kernel
theorem d_ML_mean_6 : decode b_ML_mean 6 = .ok (.goto 12, 3) := by decide +kernel
theorem d_ML_mean_9 : decode b_ML_mean 9 = .ok (.iconst 2, 1) := by decide +kernel
theorem d_ML_mean_10 : decode b_ML_mean 10 = .ok (.iload_n 0, 1) := by decide +kernel
theorem d_ML_mean_11 : decode b_ML_mean 11 = .ok (.imul, 1) := by decide +kernel
theorem d_ML_mean_12 : decode b_ML_mean 12 = .ok (.iload_n 1, 1) := by decide +kernel
theorem d_ML_mean_13 : decode b_ML_mean 13 = .ok (.iadd, 1) := by decide +kernel
theorem d_ML_mean_14 : decode b_ML_mean 14 = .ok (.iconst 2, 1) := by decide +kernel
theorem d_ML_mean_15 : decode b_ML_mean 15 = .ok (.iload_n 1, 1) := by decide +kernel
theorem d_ML_mean_16 : decode b_ML_mean 16 = .ok (.imul, 1) := by decide +kernel
theorem d_ML_mean_17 : decode b_ML_mean 17 = .ok (.idiv, 1) := by decide +kernel
theorem d_ML_mean_18 : decode b_ML_mean 18 = .ok (.ireturn, 1) := by decide +kernel
abbrev b_ML_plainBytes : ByteArray := prog_1_method_31_code
def y_ML_plainBytes : MethodName := ⟨"MaskLayers", "plainBytes", "(II)I"⟩
theorem d_ML_plainBytes_0 : decode b_ML_plainBytes 0 = .ok (.iload_n 0, 1) := by decide +kernel
theorem d_ML_plainBytes_1 : decode b_ML_plainBytes 1 = .ok (.iconst 1, 1) := by decide +kernel
theorem d_ML_plainBytes_2 : decode b_ML_plainBytes 2 = .ok (.if_icmp .ne 12, 3) := by decide +kernel
theorem d_ML_plainBytes_5 : decode b_ML_plainBytes 5 = .ok (.iload_n 1, 1) := by decide +kernel
theorem d_ML_plainBytes_6 : decode b_ML_plainBytes 6 = .ok (.bipush 8, 2) := by decide +kernel
theorem d_ML_plainBytes_8 : decode b_ML_plainBytes 8 = .ok (.invokestatic 109, 3) := by decide +kernel
theorem d_ML_plainBytes_11 : decode b_ML_plainBytes 11 = .ok (.goto 6, 3) := by decide +kernel
theorem d_ML_plainBytes_14 : decode b_ML_plainBytes 14 = .ok (.iconst 3, 1) := by decide +kernel
theorem d_ML_plainBytes_15 : decode b_ML_plainBytes 15 = .ok (.iload_n 1, 1) := by decide +kernel
theorem d_ML_plainBytes_16 : decode b_ML_plainBytes 16 = .ok (.imul, 1) := by decide +kernel
theorem d_ML_plainBytes_17 : decode b_ML_plainBytes 17 = .ok (.ireturn, 1) := by decide +kernel
abbrev b_Layers_has : ByteArray := prog_3_method_5_code
def y_Layers_has : MethodName := ⟨"MaskLayers$Layers", "has", "(II)Z"⟩
theorem d_Layers_has_0 : decode b_Layers_has 0 = .ok (.aload_n 0, 1) := by decide +kernel
theorem d_Layers_has_1 : decode b_Layers_has 1 = .ok (.getfield 16, 3) := by decide +kernel
theorem d_Layers_has_4 : decode b_Layers_has 4 = .ok (.iload_n 1, 1) := by decide +kernel
theorem d_Layers_has_5 : decode b_Layers_has 5 = .ok (.iaload, 1) := by decide +kernel
theorem d_Layers_has_6 : decode b_Layers_has 6 = .ok (.iload_n 2, 1) := by decide +kernel
theorem d_Layers_has_7 : decode b_Layers_has 7 = .ok (.ishr, 1) := by decide +kernel
theorem d_Layers_has_8 : decode b_Layers_has 8 = .ok (.iconst 1, 1) := by decide +kernel
theorem d_Layers_has_9 : decode b_Layers_has 9 = .ok (.iand, 1) := by decide +kernel
theorem d_Layers_has_10 : decode b_Layers_has 10 = .ok (.iconst 1, 1) := by decide +kernel
theorem d_Layers_has_11 : decode b_Layers_has 11 = .ok (.if_icmp .ne 7, 3) := by decide +kernel
theorem d_Layers_has_14 : decode b_Layers_has 14 = .ok (.iconst 1, 1) := by decide +kernel
theorem d_Layers_has_15 : decode b_Layers_has 15 = .ok (.goto 4, 3) := by decide +kernel
theorem d_Layers_has_18 : decode b_Layers_has 18 = .ok (.iconst 0, 1) := by decide +kernel
theorem d_Layers_has_19 : decode b_Layers_has 19 = .ok (.ireturn, 1) := by decide +kernel
abbrev b_Layers_hasSample : ByteArray := prog_3_method_6_code
def y_Layers_hasSample : MethodName := ⟨"MaskLayers$Layers", "hasSample", "(II)Z"⟩
theorem d_Layers_hasSample_0 : decode b_Layers_hasSample 0 = .ok (.iload_n 1, 1) := by decide +kernel
theorem d_Layers_hasSample_1 : decode b_Layers_hasSample 1 = .ok (.ifCond .lt 27, 3) := by decide +kernel
theorem d_Layers_hasSample_4 : decode b_Layers_hasSample 4 = .ok (.iload_n 1, 1) := by decide +kernel
theorem d_Layers_hasSample_5 : decode b_Layers_hasSample 5 = .ok (.aload_n 0, 1) := by decide +kernel
theorem d_Layers_hasSample_6 : decode b_Layers_hasSample 6 = .ok (.getfield 39, 3) := by decide +kernel
theorem d_Layers_hasSample_9 : decode b_Layers_hasSample 9 = .ok (.if_icmp .ge 19, 3) := by decide +kernel
theorem d_Layers_hasSample_12 : decode b_Layers_hasSample 12 = .ok (.iload_n 2, 1) := by decide +kernel
theorem d_Layers_hasSample_13 : decode b_Layers_hasSample 13 = .ok (.ifCond .lt 15, 3) := by decide +kernel
theorem d_Layers_hasSample_16 : decode b_Layers_hasSample 16 = .ok (.iload_n 2, 1) := by decide +kernel
theorem d_Layers_hasSample_17 : decode b_Layers_hasSample 17 = .ok (.aload_n 0, 1) := by decide +kernel
theorem d_Layers_hasSample_18 : decode b_Layers_hasSample 18 = .ok (.getfield 42, 3) := by decide +kernel
theorem d_Layers_hasSample_21 : decode b_Layers_hasSample 21 = .ok (.if_icmp .ge 7, 3) := by decide +kernel
theorem d_Layers_hasSample_24 : decode b_Layers_hasSample 24 = .ok (.iconst 1, 1) := by decide +kernel
theorem d_Layers_hasSample_25 : decode b_Layers_hasSample 25 = .ok (.goto 4, 3) := by decide +kernel
theorem d_Layers_hasSample_28 : decode b_Layers_hasSample 28 = .ok (.iconst 0, 1) := by decide +kernel
theorem d_Layers_hasSample_29 : decode b_Layers_hasSample 29 = .ok (.ireturn, 1) := by decide +kernel
abbrev b_Layers_stripes : ByteArray := prog_3_method_7_code
def y_Layers_stripes : MethodName := ⟨"MaskLayers$Layers", "stripes", "()I"⟩
theorem d_Layers_stripes_0 : decode b_Layers_stripes 0 = .ok (.aload_n 0, 1) := by decide +kernel
theorem d_Layers_stripes_1 : decode b_Layers_stripes 1 = .ok (.getfield 42, 3) := by decide +kernel
theorem d_Layers_stripes_4 : decode b_Layers_stripes 4 = .ok (.aload_n 0, 1) := by decide +kernel
theorem d_Layers_stripes_5 : decode b_Layers_stripes 5 = .ok (.getfield 26, 3) := by decide +kernel
theorem d_Layers_stripes_8 : decode b_Layers_stripes 8 = .ok (.invokestatic 45, 3) := by decide +kernel
theorem d_Layers_stripes_11 : decode b_Layers_stripes 11 = .ok (.ireturn, 1) := by decide +kernel
abbrev b_Layers_stripeOf : ByteArray := prog_3_method_8_code
def y_Layers_stripeOf : MethodName := ⟨"MaskLayers$Layers", "stripeOf", "(I)I"⟩
theorem d_Layers_stripeOf_0 : decode b_Layers_stripeOf 0 = .ok (.aload_n 0, 1) := by decide +kernel
theorem d_Layers_stripeOf_1 : decode b_Layers_stripeOf 1 = .ok (.getfield 26, 3) := by decide +kernel
theorem d_Layers_stripeOf_4 : decode b_Layers_stripeOf 4 = .ok (.iconst 1, 1) := by decide +kernel
theorem d_Layers_stripeOf_5 : decode b_Layers_stripeOf 5 = .ok (.if_icmp .ge 7, 3) := by decide +kernel
theorem d_Layers_stripeOf_8 : decode b_Layers_stripeOf 8 = .ok (.iconst 0, 1) := by decide +kernel
theorem d_Layers_stripeOf_9 : decode b_Layers_stripeOf 9 = .ok (.goto 9, 3) := by decide +kernel
theorem d_Layers_stripeOf_12 : decode b_Layers_stripeOf 12 = .ok (.iload_n 1, 1) := by decide +kernel
theorem d_Layers_stripeOf_13 : decode b_Layers_stripeOf 13 = .ok (.aload_n 0, 1) := by decide +kernel
theorem d_Layers_stripeOf_14 : decode b_Layers_stripeOf 14 = .ok (.getfield 26, 3) := by decide +kernel
theorem d_Layers_stripeOf_17 : decode b_Layers_stripeOf 17 = .ok (.idiv, 1) := by decide +kernel
theorem d_Layers_stripeOf_18 : decode b_Layers_stripeOf 18 = .ok (.ireturn, 1) := by decide +kernel
abbrev b_Layers_topOf : ByteArray := prog_3_method_9_code
def y_Layers_topOf : MethodName := ⟨"MaskLayers$Layers", "topOf", "(I)I"⟩
theorem d_Layers_topOf_0 : decode b_Layers_topOf 0 = .ok (.iload_n 1, 1) := by decide +kernel
theorem d_Layers_topOf_1 : decode b_Layers_topOf 1 = .ok (.aload_n 0, 1) := by decide +kernel
theorem d_Layers_topOf_2 : decode b_Layers_topOf 2 = .ok (.getfield 26, 3) := by decide +kernel
theorem d_Layers_topOf_5 : decode b_Layers_topOf 5 = .ok (.imul, 1) := by decide +kernel
theorem d_Layers_topOf_6 : decode b_Layers_topOf 6 = .ok (.ireturn, 1) := by decide +kernel
abbrev b_Layers_bottomOf : ByteArray := prog_3_method_10_code
def y_Layers_bottomOf : MethodName := ⟨"MaskLayers$Layers", "bottomOf", "(I)I"⟩
theorem d_Layers_bottomOf_0 : decode b_Layers_bottomOf 0 = .ok (.iload_n 1, 1) := by decide +kernel
theorem d_Layers_bottomOf_1 : decode b_Layers_bottomOf 1 = .ok (.aload_n 0, 1) := by decide +kernel
theorem d_Layers_bottomOf_2 : decode b_Layers_bottomOf 2 = .ok (.getfield 26, 3) := by decide +kernel
theorem d_Layers_bottomOf_5 : decode b_Layers_bottomOf 5 = .ok (.imul, 1) := by decide +kernel
theorem d_Layers_bottomOf_6 : decode b_Layers_bottomOf 6 = .ok (.aload_n 0, 1) := by decide +kernel
theorem d_Layers_bottomOf_7 : decode b_Layers_bottomOf 7 = .ok (.getfield 26, 3) := by decide +kernel
theorem d_Layers_bottomOf_10 : decode b_Layers_bottomOf 10 = .ok (.iadd, 1) := by decide +kernel
theorem d_Layers_bottomOf_11 : decode b_Layers_bottomOf 11 = .ok (.aload_n 0, 1) := by decide +kernel
theorem d_Layers_bottomOf_12 : decode b_Layers_bottomOf 12 = .ok (.getfield 42, 3) := by decide +kernel
theorem d_Layers_bottomOf_15 : decode b_Layers_bottomOf 15 = .ok (.invokestatic 49, 3) := by decide +kernel
theorem d_Layers_bottomOf_18 : decode b_Layers_bottomOf 18 = .ok (.ireturn, 1) := by decide +kernel
abbrev b_Layers_rowsOf : ByteArray := prog_3_method_11_code
def y_Layers_rowsOf : MethodName := ⟨"MaskLayers$Layers", "rowsOf", "(II)I"⟩
theorem d_Layers_rowsOf_0 : decode b_Layers_rowsOf 0 = .ok (.aload_n 0, 1) := by decide +kernel
theorem d_Layers_rowsOf_1 : decode b_Layers_rowsOf 1 = .ok (.getfield 26, 3) := by decide +kernel
theorem d_Layers_rowsOf_4 : decode b_Layers_rowsOf 4 = .ok (.aload_n 0, 1) := by decide +kernel
theorem d_Layers_rowsOf_5 : decode b_Layers_rowsOf 5 = .ok (.getfield 42, 3) := by decide +kernel
theorem d_Layers_rowsOf_8 : decode b_Layers_rowsOf 8 = .ok (.iload_n 1, 1) := by decide +kernel
theorem d_Layers_rowsOf_9 : decode b_Layers_rowsOf 9 = .ok (.aload_n 0, 1) := by decide +kernel
theorem d_Layers_rowsOf_10 : decode b_Layers_rowsOf 10 = .ok (.getfield 26, 3) := by decide +kernel
theorem d_Layers_rowsOf_13 : decode b_Layers_rowsOf 13 = .ok (.imul, 1) := by decide +kernel
theorem d_Layers_rowsOf_14 : decode b_Layers_rowsOf 14 = .ok (.isub, 1) := by decide +kernel
theorem d_Layers_rowsOf_15 : decode b_Layers_rowsOf 15 = .ok (.invokestatic 49, 3) := by decide +kernel
theorem d_Layers_rowsOf_18 : decode b_Layers_rowsOf 18 = .ok (.aload_n 0, 1) := by decide +kernel
theorem d_Layers_rowsOf_19 : decode b_Layers_rowsOf 19 = .ok (.getfield 20, 3) := by decide +kernel
theorem d_Layers_rowsOf_22 : decode b_Layers_rowsOf 22 = .ok (.iload_n 2, 1) := by decide +kernel
theorem d_Layers_rowsOf_23 : decode b_Layers_rowsOf 23 = .ok (.iaload, 1) := by decide +kernel
theorem d_Layers_rowsOf_24 : decode b_Layers_rowsOf 24 = .ok (.invokestatic 45, 3) := by decide +kernel
theorem d_Layers_rowsOf_27 : decode b_Layers_rowsOf 27 = .ok (.ireturn, 1) := by decide +kernel
abbrev b_Layers_startOf : ByteArray := prog_3_method_12_code
def y_Layers_startOf : MethodName := ⟨"MaskLayers$Layers", "startOf", "(I)I"⟩
theorem d_Layers_startOf_0 : decode b_Layers_startOf 0 = .ok (.iload_n 1, 1) := by decide +kernel
theorem d_Layers_startOf_1 : decode b_Layers_startOf 1 = .ok (.aload_n 0, 1) := by decide +kernel
theorem d_Layers_startOf_2 : decode b_Layers_startOf 2 = .ok (.getfield 26, 3) := by decide +kernel
theorem d_Layers_startOf_5 : decode b_Layers_startOf 5 = .ok (.imul, 1) := by decide +kernel
theorem d_Layers_startOf_6 : decode b_Layers_startOf 6 = .ok (.aload_n 0, 1) := by decide +kernel
theorem d_Layers_startOf_7 : decode b_Layers_startOf 7 = .ok (.getfield 39, 3) := by decide +kernel
theorem d_Layers_startOf_10 : decode b_Layers_startOf 10 = .ok (.imul, 1) := by decide +kernel
theorem d_Layers_startOf_11 : decode b_Layers_startOf 11 = .ok (.ireturn, 1) := by decide +kernel
abbrev b_Layers_endOf : ByteArray := prog_3_method_13_code
def y_Layers_endOf : MethodName := ⟨"MaskLayers$Layers", "endOf", "(II)I"⟩
theorem d_Layers_endOf_0 : decode b_Layers_endOf 0 = .ok (.aload_n 0, 1) := by decide +kernel
theorem d_Layers_endOf_1 : decode b_Layers_endOf 1 = .ok (.iload_n 1, 1) := by decide +kernel
theorem d_Layers_endOf_2 : decode b_Layers_endOf 2 = .ok (.invokevirtual 54, 3) := by decide +kernel
theorem d_Layers_endOf_5 : decode b_Layers_endOf 5 = .ok (.aload_n 0, 1) := by decide +kernel
theorem d_Layers_endOf_6 : decode b_Layers_endOf 6 = .ok (.getfield 23, 3) := by decide +kernel
theorem d_Layers_endOf_9 : decode b_Layers_endOf 9 = .ok (.iload_n 2, 1) := by decide +kernel
theorem d_Layers_endOf_10 : decode b_Layers_endOf 10 = .ok (.iaload, 1) := by decide +kernel
theorem d_Layers_endOf_11 : decode b_Layers_endOf 11 = .ok (.aload_n 0, 1) := by decide +kernel
theorem d_Layers_endOf_12 : decode b_Layers_endOf 12 = .ok (.iload_n 1, 1) := by decide +kernel
theorem d_Layers_endOf_13 : decode b_Layers_endOf 13 = .ok (.iload_n 2, 1) := by decide +kernel
theorem d_Layers_endOf_14 : decode b_Layers_endOf 14 = .ok (.invokevirtual 58, 3) := by decide +kernel
theorem d_Layers_endOf_17 : decode b_Layers_endOf 17 = .ok (.imul, 1) := by decide +kernel
theorem d_Layers_endOf_18 : decode b_Layers_endOf 18 = .ok (.iadd, 1) := by decide +kernel
theorem d_Layers_endOf_19 : decode b_Layers_endOf 19 = .ok (.ireturn, 1) := by decide +kernel
abbrev b_Layers_placeOf : ByteArray := prog_3_method_14_code
def y_Layers_placeOf : MethodName := ⟨"MaskLayers$Layers", "placeOf", "(III)I"⟩
theorem d_Layers_placeOf_0 : decode b_Layers_placeOf 0 = .ok (.aload_n 0, 1) := by decide +kernel
theorem d_Layers_placeOf_1 : decode b_Layers_placeOf 1 = .ok (.getfield 20, 3) := by decide +kernel
theorem d_Layers_placeOf_4 : decode b_Layers_placeOf 4 = .ok (.iload_n 1, 1) := by decide +kernel
theorem d_Layers_placeOf_5 : decode b_Layers_placeOf 5 = .ok (.iaload, 1) := by decide +kernel
theorem d_Layers_placeOf_6 : decode b_Layers_placeOf 6 = .ok (.istore 4, 2) := by decide +kernel
theorem d_Layers_placeOf_8 : decode b_Layers_placeOf 8 = .ok (.iload 4, 2) := by decide +kernel
theorem d_Layers_placeOf_10 : decode b_Layers_placeOf 10 = .ok (.iconst 1, 1) := by decide +kernel
theorem d_Layers_placeOf_11 : decode b_Layers_placeOf 11 = .ok (.if_icmp .ge 5, 3) := by decide +kernel
theorem d_Layers_placeOf_14 : decode b_Layers_placeOf 14 = .ok (.iconst 0, 1) := by decide +kernel
theorem d_Layers_placeOf_15 : decode b_Layers_placeOf 15 = .ok (.ireturn, 1) := by decide +kernel
theorem d_Layers_placeOf_16 : decode b_Layers_placeOf 16 = .ok (.aload_n 0, 1) := by decide +kernel
theorem d_Layers_placeOf_17 : decode b_Layers_placeOf 17 = .ok (.iload_n 3, 1) := by decide +kernel
theorem d_Layers_placeOf_18 : decode b_Layers_placeOf 18 = .ok (.invokevirtual 61, 3) := by decide +kernel
theorem d_Layers_placeOf_21 : decode b_Layers_placeOf 21 = .ok (.aload_n 0, 1) := by decide +kernel
theorem d_Layers_placeOf_22 : decode b_Layers_placeOf 22 = .ok (.getfield 26, 3) := by decide +kernel
theorem d_Layers_placeOf_25 : decode b_Layers_placeOf 25 = .ok (.imul, 1) := by decide +kernel
theorem d_Layers_placeOf_26 : decode b_Layers_placeOf 26 = .ok (.istore 5, 2) := by decide +kernel
theorem d_Layers_placeOf_28 : decode b_Layers_placeOf 28 = .ok (.iload 5, 2) := by decide +kernel
theorem d_Layers_placeOf_30 : decode b_Layers_placeOf 30 = .ok (.aload_n 0, 1) := by decide +kernel
theorem d_Layers_placeOf_31 : decode b_Layers_placeOf 31 = .ok (.getfield 39, 3) := by decide +kernel
theorem d_Layers_placeOf_34 : decode b_Layers_placeOf 34 = .ok (.imul, 1) := by decide +kernel
theorem d_Layers_placeOf_35 : decode b_Layers_placeOf 35 = .ok (.iload_n 3, 1) := by decide +kernel
theorem d_Layers_placeOf_36 : decode b_Layers_placeOf 36 = .ok (.iload 5, 2) := by decide +kernel
theorem d_Layers_placeOf_38 : decode b_Layers_placeOf 38 = .ok (.isub, 1) := by decide +kernel
theorem d_Layers_placeOf_39 : decode b_Layers_placeOf 39 = .ok (.iload 4, 2) := by decide +kernel
theorem d_Layers_placeOf_41 : decode b_Layers_placeOf 41 = .ok (.idiv, 1) := by decide +kernel
theorem d_Layers_placeOf_42 : decode b_Layers_placeOf 42 = .ok (.aload_n 0, 1) := by decide +kernel
theorem d_Layers_placeOf_43 : decode b_Layers_placeOf 43 = .ok (.getfield 23, 3) := by decide +kernel
theorem d_Layers_placeOf_46 : decode b_Layers_placeOf 46 = .ok (.iload_n 1, 1) := by decide +kernel
theorem d_Layers_placeOf_47 : decode b_Layers_placeOf 47 = .ok (.iaload, 1) := by decide +kernel
theorem d_Layers_placeOf_48 : decode b_Layers_placeOf 48 = .ok (.imul, 1) := by decide +kernel
theorem d_Layers_placeOf_49 : decode b_Layers_placeOf 49 = .ok (.iadd, 1) := by decide +kernel
theorem d_Layers_placeOf_50 : decode b_Layers_placeOf 50 = .ok (.iload_n 2, 1) := by decide +kernel
theorem d_Layers_placeOf_51 : decode b_Layers_placeOf 51 = .ok (.iload 4, 2) := by decide +kernel
theorem d_Layers_placeOf_53 : decode b_Layers_placeOf 53 = .ok (.idiv, 1) := by decide +kernel
theorem d_Layers_placeOf_54 : decode b_Layers_placeOf 54 = .ok (.iadd, 1) := by decide +kernel
theorem d_Layers_placeOf_55 : decode b_Layers_placeOf 55 = .ok (.ireturn, 1) := by decide +kernel
abbrev b_Layers_valueAt : ByteArray := prog_3_method_15_code
def y_Layers_valueAt : MethodName := ⟨"MaskLayers$Layers", "valueAt", "(III)I"⟩
theorem d_Layers_valueAt_0 : decode b_Layers_valueAt 0 = .ok (.aload_n 0, 1) := by decide +kernel
theorem d_Layers_valueAt_1 : decode b_Layers_valueAt 1 = .ok (.aload_n 0, 1) := by decide +kernel
theorem d_Layers_valueAt_2 : decode b_Layers_valueAt 2 = .ok (.iload_n 3, 1) := by decide +kernel
theorem d_Layers_valueAt_3 : decode b_Layers_valueAt 3 = .ok (.invokevirtual 61, 3) := by decide +kernel
theorem d_Layers_valueAt_6 : decode b_Layers_valueAt 6 = .ok (.iload_n 1, 1) := by decide +kernel
theorem d_Layers_valueAt_7 : decode b_Layers_valueAt 7 = .ok (.invokevirtual 64, 3) := by decide +kernel
theorem d_Layers_valueAt_10 : decode b_Layers_valueAt 10 = .ok (.ifCond .eq 20, 3) := by decide +kernel
theorem d_Layers_valueAt_13 : decode b_Layers_valueAt 13 = .ok (.aload_n 0, 1) := by decide +kernel
theorem d_Layers_valueAt_14 : decode b_Layers_valueAt 14 = .ok (.getfield 11, 3) := by decide +kernel
theorem d_Layers_valueAt_17 : decode b_Layers_valueAt 17 = .ok (.iload_n 1, 1) := by decide +kernel
theorem d_Layers_valueAt_18 : decode b_Layers_valueAt 18 = .ok (.aaload, 1) := by decide +kernel
theorem d_Layers_valueAt_19 : decode b_Layers_valueAt 19 = .ok (.aload_n 0, 1) := by decide +kernel
theorem d_Layers_valueAt_20 : decode b_Layers_valueAt 20 = .ok (.iload_n 1, 1) := by decide +kernel
theorem d_Layers_valueAt_21 : decode b_Layers_valueAt 21 = .ok (.iload_n 2, 1) := by decide +kernel
theorem d_Layers_valueAt_22 : decode b_Layers_valueAt 22 = .ok (.iload_n 3, 1) := by decide +kernel
theorem d_Layers_valueAt_23 : decode b_Layers_valueAt 23 = .ok (.invokevirtual 68, 3) := by decide +kernel
theorem d_Layers_valueAt_26 : decode b_Layers_valueAt 26 = .ok (.iaload, 1) := by decide +kernel
theorem d_Layers_valueAt_27 : decode b_Layers_valueAt 27 = .ok (.goto 4, 3) := by decide +kernel
theorem d_Layers_valueAt_30 : decode b_Layers_valueAt 30 = .ok (.iconst (-1), 1) := by decide +kernel
theorem d_Layers_valueAt_31 : decode b_Layers_valueAt 31 = .ok (.ireturn, 1) := by decide +kernel
abbrev b_Layers_joinedAt : ByteArray := prog_3_method_16_code
def y_Layers_joinedAt : MethodName := ⟨"MaskLayers$Layers", "joinedAt", "(II)I"⟩
theorem d_Layers_joinedAt_0 : decode b_Layers_joinedAt 0 = .ok (.aload_n 0, 1) := by decide +kernel
theorem d_Layers_joinedAt_1 : decode b_Layers_joinedAt 1 = .ok (.aload_n 0, 1) := by decide +kernel
theorem d_Layers_joinedAt_2 : decode b_Layers_joinedAt 2 = .ok (.iconst 1, 1) := by decide +kernel
theorem d_Layers_joinedAt_3 : decode b_Layers_joinedAt 3 = .ok (.iload_n 1, 1) := by decide +kernel
theorem d_Layers_joinedAt_4 : decode b_Layers_joinedAt 4 = .ok (.iload_n 2, 1) := by decide +kernel
theorem d_Layers_joinedAt_5 : decode b_Layers_joinedAt 5 = .ok (.invokevirtual 72, 3) := by decide +kernel
theorem d_Layers_joinedAt_8 : decode b_Layers_joinedAt 8 = .ok (.iconst 1, 1) := by decide +kernel
theorem d_Layers_joinedAt_9 : decode b_Layers_joinedAt 9 = .ok (.if_icmp .ne 7, 3) := by decide +kernel
theorem d_Layers_joinedAt_12 : decode b_Layers_joinedAt 12 = .ok (.iconst 2, 1) := by decide +kernel
theorem d_Layers_joinedAt_13 : decode b_Layers_joinedAt 13 = .ok (.goto 4, 3) := by decide +kernel
theorem d_Layers_joinedAt_16 : decode b_Layers_joinedAt 16 = .ok (.iconst 0, 1) := by decide +kernel
theorem d_Layers_joinedAt_17 : decode b_Layers_joinedAt 17 = .ok (.iload_n 1, 1) := by decide +kernel
theorem d_Layers_joinedAt_18 : decode b_Layers_joinedAt 18 = .ok (.iload_n 2, 1) := by decide +kernel
theorem d_Layers_joinedAt_19 : decode b_Layers_joinedAt 19 = .ok (.invokevirtual 72, 3) := by decide +kernel
theorem d_Layers_joinedAt_22 : decode b_Layers_joinedAt 22 = .ok (.istore_n 3, 1) := by decide +kernel
theorem d_Layers_joinedAt_23 : decode b_Layers_joinedAt 23 = .ok (.iload_n 3, 1) := by decide +kernel
theorem d_Layers_joinedAt_24 : decode b_Layers_joinedAt 24 = .ok (.iconst (-1), 1) := by decide +kernel
theorem d_Layers_joinedAt_25 : decode b_Layers_joinedAt 25 = .ok (.if_icmp .ne 7, 3) := by decide +kernel
theorem d_Layers_joinedAt_28 : decode b_Layers_joinedAt 28 = .ok (.iconst 0, 1) := by decide +kernel
theorem d_Layers_joinedAt_29 : decode b_Layers_joinedAt 29 = .ok (.goto 4, 3) := by decide +kernel
theorem d_Layers_joinedAt_32 : decode b_Layers_joinedAt 32 = .ok (.iload_n 3, 1) := by decide +kernel
theorem d_Layers_joinedAt_33 : decode b_Layers_joinedAt 33 = .ok (.ireturn, 1) := by decide +kernel
abbrev b_Layers_exactAt : ByteArray := prog_3_method_17_code
def y_Layers_exactAt : MethodName := ⟨"MaskLayers$Layers", "exactAt", "(II)I"⟩
theorem d_Layers_exactAt_0 : decode b_Layers_exactAt 0 = .ok (.aload_n 0, 1) := by decide +kernel
theorem d_Layers_exactAt_1 : decode b_Layers_exactAt 1 = .ok (.iconst 3, 1) := by decide +kernel
theorem d_Layers_exactAt_2 : decode b_Layers_exactAt 2 = .ok (.iload_n 1, 1) := by decide +kernel
theorem d_Layers_exactAt_3 : decode b_Layers_exactAt 3 = .ok (.iload_n 2, 1) := by decide +kernel
theorem d_Layers_exactAt_4 : decode b_Layers_exactAt 4 = .ok (.invokevirtual 72, 3) := by decide +kernel
theorem d_Layers_exactAt_7 : decode b_Layers_exactAt 7 = .ok (.istore_n 3, 1) := by decide +kernel
theorem d_Layers_exactAt_8 : decode b_Layers_exactAt 8 = .ok (.iload_n 3, 1) := by decide +kernel
theorem d_Layers_exactAt_9 : decode b_Layers_exactAt 9 = .ok (.iconst (-1), 1) := by decide +kernel
theorem d_Layers_exactAt_10 : decode b_Layers_exactAt 10 = .ok (.if_icmp .ne 12, 3) := by decide +kernel
theorem d_Layers_exactAt_13 : decode b_Layers_exactAt 13 = .ok (.aload_n 0, 1) := by decide +kernel
theorem d_Layers_exactAt_14 : decode b_Layers_exactAt 14 = .ok (.iload_n 1, 1) := by decide +kernel
theorem d_Layers_exactAt_15 : decode b_Layers_exactAt 15 = .ok (.iload_n 2, 1) := by decide +kernel
theorem d_Layers_exactAt_16 : decode b_Layers_exactAt 16 = .ok (.invokevirtual 75, 3) := by decide +kernel
theorem d_Layers_exactAt_19 : decode b_Layers_exactAt 19 = .ok (.goto 13, 3) := by decide +kernel
theorem d_Layers_exactAt_22 : decode b_Layers_exactAt 22 = .ok (.aload_n 0, 1) := by decide +kernel
theorem d_Layers_exactAt_23 : decode b_Layers_exactAt 23 = .ok (.iload_n 1, 1) := by decide +kernel
theorem d_Layers_exactAt_24 : decode b_Layers_exactAt 24 = .ok (.iload_n 2, 1) := by decide +kernel
theorem d_Layers_exactAt_25 : decode b_Layers_exactAt 25 = .ok (.invokevirtual 75, 3) := by decide +kernel
theorem d_Layers_exactAt_28 : decode b_Layers_exactAt 28 = .ok (.iload_n 3, 1) := by decide +kernel
theorem d_Layers_exactAt_29 : decode b_Layers_exactAt 29 = .ok (.invokestatic 78, 3) := by decide +kernel
theorem d_Layers_exactAt_32 : decode b_Layers_exactAt 32 = .ok (.ireturn, 1) := by decide +kernel
end
section
def ad {α : Type} (dc ds : Nat) (k : Option (α × Nat × Nat)) : Option (α × Nat × Nat) := k.map (fun z => (z.1, dc + z.2.1, ds + z.2.2))
theorem ad_ok {α : Type} {dc ds : Nat} {k : Option (α × Nat × Nat)} {z : α × Nat × Nat} (h : ad dc ds k = some z) : ∃ z', k = some z' ∧ z.1 = z'.1 ∧ z.2.1 = dc + z'.2.1 ∧ z.2.2 = ds + z'.2.2 := by
  cases k with
  | none => cases h
  | some z' => cases h; exact ⟨z', rfl, rfl, rfl, rfl⟩
abbrev LyS : Type := (Nat → Int32) × (Nat → Nat → Int32)
abbrev ByS : Type := Int32 × Nat × (Nat → Int32)
def Lf (L : LyS) (k : Nat) (x : Int32) : LyS := (upd L.1 k x, L.2)
def La (L : LyS) (k : Nat) (f : Nat → Int32) : LyS := (L.1, va_up L.2 k f)
def Ls (L : LyS) (k i : Nat) (x : Int32) : LyS := (L.1, va_up L.2 k (upd (L.2 k) i x))
def tyG (cI cR cZ : ClassId) : List (ClassId × FieldType) := [(cI, .int), (cZ, .boolean), (cR, .array .int)]
def wLy (cI cR : ClassId) (a : Nat → Nat) (n : Nat) (L : LyS) : va_W := [(a 0, .inr (1, [.ref (a 1), .ref (a 6), .ref (a 7), .ref (a 8), .int (L.1 0), .int (L.1 1), .int (L.1 2), .int (L.1 3)])), (a 1, .inl (cR, 4, .inr (.inr (.inr (.inr (fun j => some (a (2 + j)))))))), (a 2, .inl (cI, n, .inl (L.2 0))), (a 3, .inl (cI, n, .inl (L.2 1))), (a 4, .inl (cI, n, .inl (L.2 2))), (a 5, .inl (cI, n, .inl (L.2 3))), (a 6, .inl (cI, 24, .inl (L.2 4))), (a 7, .inl (cI, 4, .inl (L.2 5))), (a 8, .inl (cI, 4, .inl (L.2 6)))]
def wBy (cI : ClassId) (b q : Nat) (B : ByS) : va_W := [(b, .inr (0, [.ref q, .int B.1])), (q, .inl (cI, B.2.1, .inl B.2.2))]
def wMk (cI cR : ClassId) (o0 hc hm hb : Nat) (a : Nat → Nat) (n : Nat) (col msk bare : Nat → Int32) (L : LyS) : va_W := [(o0, .inr (2, [.ref (a 0), .ref hc, .ref hm, .ref hb])), (hc, .inl (cI, n, .inl col)), (hm, .inl (cI, n, .inl msk)), (hb, .inl (cI, n, .inl bare))] ++ wLy cI cR a n L
def wRd (cI cR : ClassId) (o0 hh b q : Nat) (a : Nat → Nat) (n : Nat) (B : ByS) (pl rf : Int32) (hd : Nat → Int32) (L : LyS) : va_W := [(o0, .inr (3, [.ref b, .ref (a 0), .ref hh, .int pl, .int rf])), (hh, .inl (cI, 7, .inl hd))] ++ (wBy cI b q B ++ wLy cI cR a n L)
def wWr (cI cR : ClassId) (o0 : Nat) (a : Nat → Nat) (n b q : Nat) (L : LyS) (B : ByS) : va_W := [(o0, .inr (4, [.ref (a 0), .ref b]))] ++ (wLy cI cR a n L ++ wBy cI b q B)
def wML (cI cR : ClassId) (o0 hc hm om hb ow or_ hh : Nat) (aM aF : Nat → Nat) (bw qw bf qf n : Nat) (wd ht stp : Int32) (col msk bare : Nat → Int32) (M F : LyS) (Bw Bf : ByS) (pl rf : Int32) (hd : Nat → Int32) : va_W := [(o0, .inr (5, [.int wd, .int ht, .ref hc, .ref hm, .ref (aM 0), .ref (aF 0), .ref bw, .ref bf, .ref om, .ref ow, .ref or_, .int stp])), (hc, .inl (cI, n, .inl col)), (hm, .inl (cI, n, .inl msk)), (om, .inr (2, [.ref (aM 0), .ref hc, .ref hm, .ref hb])), (hb, .inl (cI, n, .inl bare)), (ow, .inr (4, [.ref (aM 0), .ref bw])), (or_, .inr (3, [.ref bf, .ref (aF 0), .ref hh, .int pl, .int rf])), (hh, .inl (cI, 7, .inl hd))] ++ (wLy cI cR aM n M ++ (wLy cI cR aF 576 F ++ (wBy cI bw qw Bw ++ wBy cI bf qf Bf)))
def hdLo : Nat → Int32 := fun j => ([77, 76, 1, 1, 1, 1, 1] : List Int32).getD j 0
def hdHi : Nat → Int32 := fun j => ([77, 76, 24, 24, 24, 8, 8] : List Int32).getD j 0
/-! ===== the pure side: what a walk gives as a function ===== -/
def gd {α : Type} (i : Int32) (n : Nat) (k : Option α) : Option α := if i < 0 ∨ n ≤ i.toNatClampNeg then none else k
theorem gd_ok {α : Type} {i : Int32} {n : Nat} {k : Option α} {r : α} (h : gd i n k = some r) : vp_in i n ∧ k = some r := by
  unfold gd at h
  by_cases c : i < 0 ∨ n ≤ i.toNatClampNeg
  · rw [if_pos c] at h; cases h
  · rw [if_neg c] at h; exact ⟨c, h⟩
theorem gd_in {α : Type} {i : Int32} {n : Nat} {k : Option α} (h : vp_in i n) : gd i n k = k := if_neg h
def dz {α : Type} (y : Int32) (k : Option α) : Option α := if y = 0 then none else k
theorem dz_ok {α : Type} {y : Int32} {k : Option α} {r : α} (h : dz y k = some r) : ¬ y = 0 ∧ k = some r := by
  unfold dz at h
  by_cases c : y = 0
  · rw [if_pos c] at h; cases h
  · rw [if_neg c] at h; exact ⟨c, h⟩
theorem dz_in {α : Type} {y : Int32} {k : Option α} (h : ¬ y = 0) : dz y k = k := if_neg h
def zb {α : Type} (v : Int32) (k : Option α) : Option α := if v = 0 ∨ v = 1 then k else none
theorem zb_ok {α : Type} {v : Int32} {k : Option α} {r : α} (h : zb v k = some r) : (v = 0 ∨ v = 1) ∧ k = some r := by
  unfold zb at h
  by_cases c : v = 0 ∨ v = 1
  · rw [if_pos c] at h; exact ⟨c, h⟩
  · rw [if_neg c] at h; cases h
theorem zb_in {α : Type} {v : Int32} {k : Option α} (h : v = 0 ∨ v = 1) : zb v k = k := if_pos h
theorem bd_ok {α β : Type} {x : Option α} {f : α → Option β} {r : β} (h : x.bind f = some r) : ∃ a, x = some a ∧ f a = some r := by
  cases x with
  | none => cases h
  | some a => exact ⟨a, rfl, h⟩
theorem zb_nar {v : Int32} (h : v = 0 ∨ v = 1) : narrow .boolean (.int v) = .int v := by
  rcases h with rfl | rfl <;> rfl
/-! ===== J: the machine at pc, over a world of cells, with these locals and this stack ===== -/
def J (p : Program) (l : Launch) (e : Env) (R : Room) (s : State) (m : MethodId) (args : Array Value) (below : List Frame) (meth : Method) (c : Code) (D : va_G) (A : Nat → Prop) (X : va_W → Prop) (nL : Nat) (Q : State → Prop) (cells slots : Nat) (ws : va_W) (lv : List (Nat × Value)) (st : List Value) (pc : Nat) : Prop :=
  ∀ (H : Heap) (locs : List Loc) (ls : Array Slot), va_P D vwCl ws H → X ws → va_S A s.heap H locs → lv_has ls nL lv → W p l e R s m args below meth c H locs cells slots Q (F0 m pc ls st)
/-- what stays the same through a method -/
def Cx (p : Program) (s : State) (m : MethodId) (args : Array Value) (meth : Method) (c : Code) (D : va_G) (tys : List (ClassId × FieldType)) (cc : ByteArray) (nL : Nat) (own : String) : Prop :=
  CallFix p m c cc nL s args BIG own ∧ va_K D vwCl tys s ∧ NW s ∧ meth.locks = false
section JR
variable {p : Program} {l : Launch} {e : Env} {R : Room} {s : State} {m : MethodId} {args : Array Value} {below : List Frame} {meth : Method} {c : Code} {D : va_G} {A : Nat → Prop} {X : va_W → Prop} {nL : Nat} {Q : State → Prop} {cells slots : Nat} {ws : va_W} {lv : List (Nat × Value)} {st : List Value} {pc : Nat}
variable {tys : List (ClassId × FieldType)} {cc : ByteArray} {own : String}
theorem j_iconst (C : Cx p s m args meth c D tys cc nL own) {n : Int} {v : Int32} (d : decode cc pc = .ok (.iconst n, 1)) (hv : Int32.ofInt n = v) (k : J p l e R s m args below meth c D A X nL Q cells slots ws lv (.int v :: st) (pc + 1)) : J p l e R s m args below meth c D A X nL Q cells slots ws lv st pc :=
  fun H locs ls hP hD hS h => lv_iconst C.1.1 C.1.2.1 d hv (k H locs ls hP hD hS h)
theorem j_bipush (C : Cx p s m args meth c D tys cc nL own) {n : Int} {v : Int32} (d : decode cc pc = .ok (.bipush n, 2)) (hv : (Int8.ofInt n).toInt32 = v) (k : J p l e R s m args below meth c D A X nL Q cells slots ws lv (.int v :: st) (pc + 2)) : J p l e R s m args below meth c D A X nL Q cells slots ws lv st pc :=
  fun H locs ls hP hD hS h => lv_bipush C.1.1 C.1.2.1 d hv (k H locs ls hP hD hS h)
theorem j_sipush (C : Cx p s m args meth c D tys cc nL own) {n : Int} {v : Int32} (d : decode cc pc = .ok (.sipush n, 3)) (hv : (Int16.ofInt n).toInt32 = v) (k : J p l e R s m args below meth c D A X nL Q cells slots ws lv (.int v :: st) (pc + 3)) : J p l e R s m args below meth c D A X nL Q cells slots ws lv st pc :=
  fun H locs ls hP hD hS h => lv_sipush C.1.1 C.1.2.1 d hv (k H locs ls hP hD hS h)
theorem j_ldc (C : Cx p s m args meth c D tys cc nL own) {index : Nat} {v : Int32} (hw : Jvm.Cond.constant own index v ∈ BIG) (d : decode cc pc = .ok (.ldc index, 2)) (k : J p l e R s m args below meth c D A X nL Q cells slots ws lv (.int v :: st) (pc + 2)) : J p l e R s m args below meth c D A X nL Q cells slots ws lv st pc :=
  fun H locs ls hP hD hS h => lv_ldc C.1.1 C.1.2.1 C.1.2.2.2.1 (C.1.2.2.2.2 _ hw) d (k H locs ls hP hD hS h)
theorem j_iload_n (C : Cx p s m args meth c D tys cc nL own) {i : Fin 4} (q : Nat) {x : Int32} (d : decode cc pc = .ok (.iload_n i, 1)) (hl : lv[q]? = some ((i : Nat), .int x)) (k : J p l e R s m args below meth c D A X nL Q cells slots ws lv (.int x :: st) (pc + 1)) : J p l e R s m args below meth c D A X nL Q cells slots ws lv st pc :=
  fun H locs ls hP hD hS h => lv_iload_n C.1.1 C.1.2.1 d rfl (lv_at h q hl) (k H locs ls hP hD hS h)
theorem j_iload (C : Cx p s m args meth c D tys cc nL own) {i : Nat} (q : Nat) {x : Int32} (d : decode cc pc = .ok (.iload i, 2)) (hl : lv[q]? = some (i, .int x)) (k : J p l e R s m args below meth c D A X nL Q cells slots ws lv (.int x :: st) (pc + 2)) : J p l e R s m args below meth c D A X nL Q cells slots ws lv st pc :=
  fun H locs ls hP hD hS h => lv_iload C.1.1 C.1.2.1 d (lv_at h q hl) (k H locs ls hP hD hS h)
theorem j_aload_n (C : Cx p s m args meth c D tys cc nL own) {i : Fin 4} (q : Nat) {x : Nat} (d : decode cc pc = .ok (.aload_n i, 1)) (hl : lv[q]? = some ((i : Nat), .ref x)) (k : J p l e R s m args below meth c D A X nL Q cells slots ws lv (.ref x :: st) (pc + 1)) : J p l e R s m args below meth c D A X nL Q cells slots ws lv st pc :=
  fun H locs ls hP hD hS h => lv_aload_n C.1.1 C.1.2.1 d rfl (lv_at h q hl) (k H locs ls hP hD hS h)
theorem j_aload (C : Cx p s m args meth c D tys cc nL own) {i : Nat} (q : Nat) {x : Nat} (d : decode cc pc = .ok (.aload i, 2)) (hl : lv[q]? = some (i, .ref x)) (k : J p l e R s m args below meth c D A X nL Q cells slots ws lv (.ref x :: st) (pc + 2)) : J p l e R s m args below meth c D A X nL Q cells slots ws lv st pc :=
  fun H locs ls hP hD hS h => lv_aload C.1.1 C.1.2.1 d (lv_at h q hl) (k H locs ls hP hD hS h)
theorem j_istore_n (C : Cx p s m args meth c D tys cc nL own) {i : Fin 4} (lv' : List (Nat × Value)) {x : Int32} (d : decode cc pc = .ok (.istore_n i, 1)) (hn : (i : Nat) < nL) (hl : ((i : Nat), Value.int x) :: lv.filter (fun q => !(q.1 == (i : Nat)) && !(q.1 + 1 == (i : Nat) && q.2.category == 2)) = lv') (k : J p l e R s m args below meth c D A X nL Q cells slots ws lv' st (pc + 1)) : J p l e R s m args below meth c D A X nL Q cells slots ws lv (.int x :: st) pc :=
  fun H locs ls hP hD hS h => lv_istore_n C.1.1 C.1.2.1 d rfl h hn hl (fun ls' h' => k H locs ls' hP hD hS h')
theorem j_istore (C : Cx p s m args meth c D tys cc nL own) {i : Nat} (lv' : List (Nat × Value)) {x : Int32} (d : decode cc pc = .ok (.istore i, 2)) (hn : i < nL) (hl : (i, Value.int x) :: lv.filter (fun q => !(q.1 == i) && !(q.1 + 1 == i && q.2.category == 2)) = lv') (k : J p l e R s m args below meth c D A X nL Q cells slots ws lv' st (pc + 2)) : J p l e R s m args below meth c D A X nL Q cells slots ws lv (.int x :: st) pc :=
  fun H locs ls hP hD hS h => lv_istore C.1.1 C.1.2.1 d h hn hl (fun ls' h' => k H locs ls' hP hD hS h')
theorem j_astore_n (C : Cx p s m args meth c D tys cc nL own) {i : Fin 4} (lv' : List (Nat × Value)) {x : Nat} (d : decode cc pc = .ok (.astore_n i, 1)) (hn : (i : Nat) < nL) (hl : ((i : Nat), Value.ref x) :: lv.filter (fun q => !(q.1 == (i : Nat)) && !(q.1 + 1 == (i : Nat) && q.2.category == 2)) = lv') (k : J p l e R s m args below meth c D A X nL Q cells slots ws lv' st (pc + 1)) : J p l e R s m args below meth c D A X nL Q cells slots ws lv (.ref x :: st) pc :=
  fun H locs ls hP hD hS h => lv_astore_n C.1.1 C.1.2.1 d rfl h hn hl (fun ls' h' => k H locs ls' hP hD hS h')
theorem j_astore (C : Cx p s m args meth c D tys cc nL own) {i : Nat} (lv' : List (Nat × Value)) {x : Nat} (d : decode cc pc = .ok (.astore i, 2)) (hn : i < nL) (hl : (i, Value.ref x) :: lv.filter (fun q => !(q.1 == i) && !(q.1 + 1 == i && q.2.category == 2)) = lv') (k : J p l e R s m args below meth c D A X nL Q cells slots ws lv' st (pc + 2)) : J p l e R s m args below meth c D A X nL Q cells slots ws lv (.ref x :: st) pc :=
  fun H locs ls hP hD hS h => lv_astore C.1.1 C.1.2.1 d h hn hl (fun ls' h' => k H locs ls' hP hD hS h')
theorem j_iinc (C : Cx p s m args meth c D tys cc nL own) {i : Nat} {n : Int} (lv' : List (Nat × Value)) (q : Nat) {x : Int32} (v : Int32) (d : decode cc pc = .ok (.iinc i n, 3)) (hq : lv[q]? = some (i, .int x)) (hv : x + Int32.ofInt n = v) (hn : i < nL) (hl : (i, Value.int v) :: lv.filter (fun q => !(q.1 == i) && !(q.1 + 1 == i && q.2.category == 2)) = lv') (k : J p l e R s m args below meth c D A X nL Q cells slots ws lv' st (pc + 3)) : J p l e R s m args below meth c D A X nL Q cells slots ws lv st pc :=
  fun H locs ls hP hD hS h => lv_iinc C.1.1 C.1.2.1 d h hq hv hn hl (fun ls' h' => k H locs ls' hP hD hS h')
theorem j_iadd (C : Cx p s m args meth c D tys cc nL own) {x y : Int32} (d : decode cc pc = .ok (.iadd, 1)) (k : J p l e R s m args below meth c D A X nL Q cells slots ws lv (.int (x + y) :: st) (pc + 1)) : J p l e R s m args below meth c D A X nL Q cells slots ws lv (.int y :: .int x :: st) pc :=
  fun H locs ls hP hD hS h => lv_iadd C.1.1 C.1.2.1 d (k H locs ls hP hD hS h)
theorem j_isub (C : Cx p s m args meth c D tys cc nL own) {x y : Int32} (d : decode cc pc = .ok (.isub, 1)) (k : J p l e R s m args below meth c D A X nL Q cells slots ws lv (.int (x - y) :: st) (pc + 1)) : J p l e R s m args below meth c D A X nL Q cells slots ws lv (.int y :: .int x :: st) pc :=
  fun H locs ls hP hD hS h => lv_isub C.1.1 C.1.2.1 d (k H locs ls hP hD hS h)
theorem j_imul (C : Cx p s m args meth c D tys cc nL own) {x y : Int32} (d : decode cc pc = .ok (.imul, 1)) (k : J p l e R s m args below meth c D A X nL Q cells slots ws lv (.int (x * y) :: st) (pc + 1)) : J p l e R s m args below meth c D A X nL Q cells slots ws lv (.int y :: .int x :: st) pc :=
  fun H locs ls hP hD hS h => lv_imul C.1.1 C.1.2.1 d (k H locs ls hP hD hS h)
theorem j_iand (C : Cx p s m args meth c D tys cc nL own) {x y : Int32} (d : decode cc pc = .ok (.iand, 1)) (k : J p l e R s m args below meth c D A X nL Q cells slots ws lv (.int (x &&& y) :: st) (pc + 1)) : J p l e R s m args below meth c D A X nL Q cells slots ws lv (.int y :: .int x :: st) pc :=
  fun H locs ls hP hD hS h => lv_iand C.1.1 C.1.2.1 d (k H locs ls hP hD hS h)
theorem j_ior (C : Cx p s m args meth c D tys cc nL own) {x y : Int32} (d : decode cc pc = .ok (.ior, 1)) (k : J p l e R s m args below meth c D A X nL Q cells slots ws lv (.int (x ||| y) :: st) (pc + 1)) : J p l e R s m args below meth c D A X nL Q cells slots ws lv (.int y :: .int x :: st) pc :=
  fun H locs ls hP hD hS h => lv_ior C.1.1 C.1.2.1 d (k H locs ls hP hD hS h)
theorem j_ishl (C : Cx p s m args meth c D tys cc nL own) {x y : Int32} (d : decode cc pc = .ok (.ishl, 1)) (k : J p l e R s m args below meth c D A X nL Q cells slots ws lv (.int (x <<< (y &&& 31)) :: st) (pc + 1)) : J p l e R s m args below meth c D A X nL Q cells slots ws lv (.int y :: .int x :: st) pc :=
  fun H locs ls hP hD hS h => lv_ishl C.1.1 C.1.2.1 d (k H locs ls hP hD hS h)
theorem j_ishr (C : Cx p s m args meth c D tys cc nL own) {x y : Int32} (d : decode cc pc = .ok (.ishr, 1)) (k : J p l e R s m args below meth c D A X nL Q cells slots ws lv (.int (x >>> (y &&& 31)) :: st) (pc + 1)) : J p l e R s m args below meth c D A X nL Q cells slots ws lv (.int y :: .int x :: st) pc :=
  fun H locs ls hP hD hS h => lv_ishr C.1.1 C.1.2.1 d (k H locs ls hP hD hS h)
theorem j_idiv (C : Cx p s m args meth c D tys cc nL own) {x y : Int32} (d : decode cc pc = .ok (.idiv, 1)) (hy : ¬ y = 0) (k : J p l e R s m args below meth c D A X nL Q cells slots ws lv (.int (x / y) :: st) (pc + 1)) : J p l e R s m args below meth c D A X nL Q cells slots ws lv (.int y :: .int x :: st) pc :=
  fun H locs ls hP hD hS h => lv_idiv C.1.1 C.1.2.1 d hy (k H locs ls hP hD hS h)
theorem j_dup (C : Cx p s m args meth c D tys cc nL own) {v : Value} (d : decode cc pc = .ok (.dup, 1)) (hv : v.category = 1) (k : J p l e R s m args below meth c D A X nL Q cells slots ws lv (v :: v :: st) (pc + 1)) : J p l e R s m args below meth c D A X nL Q cells slots ws lv (v :: st) pc :=
  fun H locs ls hP hD hS h => lv_dup C.1.1 C.1.2.1 d hv (k H locs ls hP hD hS h)
theorem j_dup2 (C : Cx p s m args meth c D tys cc nL own) {v w : Value} (d : decode cc pc = .ok (.dup2, 1)) (hv : v.category = 1) (hw : w.category = 1) (k : J p l e R s m args below meth c D A X nL Q cells slots ws lv (v :: w :: v :: w :: st) (pc + 1)) : J p l e R s m args below meth c D A X nL Q cells slots ws lv (v :: w :: st) pc :=
  fun H locs ls hP hD hS h => lv_dup2_11 C.1.1 C.1.2.1 d hv hw (k H locs ls hP hD hS h)
theorem j_pop (C : Cx p s m args meth c D tys cc nL own) {v : Value} (d : decode cc pc = .ok (.pop, 1)) (hv : v.category = 1) (k : J p l e R s m args below meth c D A X nL Q cells slots ws lv st (pc + 1)) : J p l e R s m args below meth c D A X nL Q cells slots ws lv (v :: st) pc :=
  fun H locs ls hP hD hS h => lv_pop C.1.1 C.1.2.1 d hv (k H locs ls hP hD hS h)
theorem j_goto (C : Cx p s m args meth c D tys cc nL own) {off : Int} (tgt : Nat) (d : decode cc pc = .ok (.goto off, 3)) (ht : (pc : Int) + off = (tgt : Int)) (k : J p l e R s m args below meth c D A X nL Q cells slots ws lv st tgt) : J p l e R s m args below meth c D A X nL Q cells slots ws lv st pc :=
  fun H locs ls hP hD hS h => lv_goto C.1.1 C.1.2.1 d ht (k H locs ls hP hD hS h)
theorem j_if_eq (C : Cx p s m args meth c D tys cc nL own) {x : Int32} {off : Int} (tgt : Nat) (d : decode cc pc = .ok (.ifCond .eq off, 3)) (ht : (pc : Int) + off = (tgt : Int)) (kt : x = 0 → J p l e R s m args below meth c D A X nL Q cells slots ws lv st tgt) (kf : ¬ x = 0 → J p l e R s m args below meth c D A X nL Q cells slots ws lv st (pc + 3)) : J p l e R s m args below meth c D A X nL Q cells slots ws lv (.int x :: st) pc :=
  fun H locs ls hP hD hS h => lv_if_eq C.1.1 C.1.2.1 d ht (fun q => kt q H locs ls hP hD hS h) (fun q => kf q H locs ls hP hD hS h)
theorem j_if_ne (C : Cx p s m args meth c D tys cc nL own) {x : Int32} {off : Int} (tgt : Nat) (d : decode cc pc = .ok (.ifCond .ne off, 3)) (ht : (pc : Int) + off = (tgt : Int)) (kt : ¬ x = 0 → J p l e R s m args below meth c D A X nL Q cells slots ws lv st tgt) (kf : x = 0 → J p l e R s m args below meth c D A X nL Q cells slots ws lv st (pc + 3)) : J p l e R s m args below meth c D A X nL Q cells slots ws lv (.int x :: st) pc :=
  fun H locs ls hP hD hS h => lv_if_ne C.1.1 C.1.2.1 d ht (fun q => kt q H locs ls hP hD hS h) (fun q => kf q H locs ls hP hD hS h)
theorem j_if_lt (C : Cx p s m args meth c D tys cc nL own) {x : Int32} {off : Int} (tgt : Nat) (d : decode cc pc = .ok (.ifCond .lt off, 3)) (ht : (pc : Int) + off = (tgt : Int)) (kt : x < 0 → J p l e R s m args below meth c D A X nL Q cells slots ws lv st tgt) (kf : ¬ x < 0 → J p l e R s m args below meth c D A X nL Q cells slots ws lv st (pc + 3)) : J p l e R s m args below meth c D A X nL Q cells slots ws lv (.int x :: st) pc :=
  fun H locs ls hP hD hS h => lv_if_lt C.1.1 C.1.2.1 d ht (fun q => kt q H locs ls hP hD hS h) (fun q => kf q H locs ls hP hD hS h)
theorem j_if_ge (C : Cx p s m args meth c D tys cc nL own) {x : Int32} {off : Int} (tgt : Nat) (d : decode cc pc = .ok (.ifCond .ge off, 3)) (ht : (pc : Int) + off = (tgt : Int)) (kt : 0 ≤ x → J p l e R s m args below meth c D A X nL Q cells slots ws lv st tgt) (kf : ¬ 0 ≤ x → J p l e R s m args below meth c D A X nL Q cells slots ws lv st (pc + 3)) : J p l e R s m args below meth c D A X nL Q cells slots ws lv (.int x :: st) pc :=
  fun H locs ls hP hD hS h => lv_if_ge C.1.1 C.1.2.1 d ht (fun q => kt q H locs ls hP hD hS h) (fun q => kf q H locs ls hP hD hS h)
theorem j_if_gt (C : Cx p s m args meth c D tys cc nL own) {x : Int32} {off : Int} (tgt : Nat) (d : decode cc pc = .ok (.ifCond .gt off, 3)) (ht : (pc : Int) + off = (tgt : Int)) (kt : 0 < x → J p l e R s m args below meth c D A X nL Q cells slots ws lv st tgt) (kf : ¬ 0 < x → J p l e R s m args below meth c D A X nL Q cells slots ws lv st (pc + 3)) : J p l e R s m args below meth c D A X nL Q cells slots ws lv (.int x :: st) pc :=
  fun H locs ls hP hD hS h => lv_if_gt C.1.1 C.1.2.1 d ht (fun q => kt q H locs ls hP hD hS h) (fun q => kf q H locs ls hP hD hS h)
theorem j_if_le (C : Cx p s m args meth c D tys cc nL own) {x : Int32} {off : Int} (tgt : Nat) (d : decode cc pc = .ok (.ifCond .le off, 3)) (ht : (pc : Int) + off = (tgt : Int)) (kt : x ≤ 0 → J p l e R s m args below meth c D A X nL Q cells slots ws lv st tgt) (kf : ¬ x ≤ 0 → J p l e R s m args below meth c D A X nL Q cells slots ws lv st (pc + 3)) : J p l e R s m args below meth c D A X nL Q cells slots ws lv (.int x :: st) pc :=
  fun H locs ls hP hD hS h => lv_if_le C.1.1 C.1.2.1 d ht (fun q => kt q H locs ls hP hD hS h) (fun q => kf q H locs ls hP hD hS h)
theorem j_icmp_eq (C : Cx p s m args meth c D tys cc nL own) {x y : Int32} {off : Int} (tgt : Nat) (d : decode cc pc = .ok (.if_icmp .eq off, 3)) (ht : (pc : Int) + off = (tgt : Int)) (kt : x = y → J p l e R s m args below meth c D A X nL Q cells slots ws lv st tgt) (kf : ¬ x = y → J p l e R s m args below meth c D A X nL Q cells slots ws lv st (pc + 3)) : J p l e R s m args below meth c D A X nL Q cells slots ws lv (.int y :: .int x :: st) pc :=
  fun H locs ls hP hD hS h => lv_icmp_eq C.1.1 C.1.2.1 d ht (fun q => kt q H locs ls hP hD hS h) (fun q => kf q H locs ls hP hD hS h)
theorem j_icmp_ne (C : Cx p s m args meth c D tys cc nL own) {x y : Int32} {off : Int} (tgt : Nat) (d : decode cc pc = .ok (.if_icmp .ne off, 3)) (ht : (pc : Int) + off = (tgt : Int)) (kt : ¬ x = y → J p l e R s m args below meth c D A X nL Q cells slots ws lv st tgt) (kf : x = y → J p l e R s m args below meth c D A X nL Q cells slots ws lv st (pc + 3)) : J p l e R s m args below meth c D A X nL Q cells slots ws lv (.int y :: .int x :: st) pc :=
  fun H locs ls hP hD hS h => lv_icmp_ne C.1.1 C.1.2.1 d ht (fun q => kt q H locs ls hP hD hS h) (fun q => kf q H locs ls hP hD hS h)
theorem j_icmp_lt (C : Cx p s m args meth c D tys cc nL own) {x y : Int32} {off : Int} (tgt : Nat) (d : decode cc pc = .ok (.if_icmp .lt off, 3)) (ht : (pc : Int) + off = (tgt : Int)) (kt : x < y → J p l e R s m args below meth c D A X nL Q cells slots ws lv st tgt) (kf : ¬ x < y → J p l e R s m args below meth c D A X nL Q cells slots ws lv st (pc + 3)) : J p l e R s m args below meth c D A X nL Q cells slots ws lv (.int y :: .int x :: st) pc :=
  fun H locs ls hP hD hS h => lv_icmp_lt C.1.1 C.1.2.1 d ht (fun q => kt q H locs ls hP hD hS h) (fun q => kf q H locs ls hP hD hS h)
theorem j_icmp_ge (C : Cx p s m args meth c D tys cc nL own) {x y : Int32} {off : Int} (tgt : Nat) (d : decode cc pc = .ok (.if_icmp .ge off, 3)) (ht : (pc : Int) + off = (tgt : Int)) (kt : y ≤ x → J p l e R s m args below meth c D A X nL Q cells slots ws lv st tgt) (kf : ¬ y ≤ x → J p l e R s m args below meth c D A X nL Q cells slots ws lv st (pc + 3)) : J p l e R s m args below meth c D A X nL Q cells slots ws lv (.int y :: .int x :: st) pc :=
  fun H locs ls hP hD hS h => lv_icmp_ge C.1.1 C.1.2.1 d ht (fun q => kt q H locs ls hP hD hS h) (fun q => kf q H locs ls hP hD hS h)
theorem j_icmp_gt (C : Cx p s m args meth c D tys cc nL own) {x y : Int32} {off : Int} (tgt : Nat) (d : decode cc pc = .ok (.if_icmp .gt off, 3)) (ht : (pc : Int) + off = (tgt : Int)) (kt : y < x → J p l e R s m args below meth c D A X nL Q cells slots ws lv st tgt) (kf : ¬ y < x → J p l e R s m args below meth c D A X nL Q cells slots ws lv st (pc + 3)) : J p l e R s m args below meth c D A X nL Q cells slots ws lv (.int y :: .int x :: st) pc :=
  fun H locs ls hP hD hS h => lv_icmp_gt C.1.1 C.1.2.1 d ht (fun q => kt q H locs ls hP hD hS h) (fun q => kf q H locs ls hP hD hS h)
theorem j_icmp_le (C : Cx p s m args meth c D tys cc nL own) {x y : Int32} {off : Int} (tgt : Nat) (d : decode cc pc = .ok (.if_icmp .le off, 3)) (ht : (pc : Int) + off = (tgt : Int)) (kt : x ≤ y → J p l e R s m args below meth c D A X nL Q cells slots ws lv st tgt) (kf : ¬ x ≤ y → J p l e R s m args below meth c D A X nL Q cells slots ws lv st (pc + 3)) : J p l e R s m args below meth c D A X nL Q cells slots ws lv (.int y :: .int x :: st) pc :=
  fun H locs ls hP hD hS h => lv_icmp_le C.1.1 C.1.2.1 d ht (fun q => kt q H locs ls hP hD hS h) (fun q => kf q H locs ls hP hD hS h)
theorem j_sub (is : List Nat) {lv' : List (Nat × Value)} (hl : lv_pick lv is = lv') (k : J p l e R s m args below meth c D A X nL Q cells slots ws lv' st pc) : J p l e R s m args below meth c D A X nL Q cells slots ws lv st pc :=
  fun H locs ls hP hD hS h => k H locs ls hP hD hS (lv_sub h is hl)
theorem P_map {ws ws' : va_W} {H : Heap} (h : va_P D vwCl ws H) (is : List Nat) (hs : is.map (fun i => ws[i]?) = ws'.map some) : va_P D vwCl ws' H := by
  intro k q hk
  have h1 : (is.map (fun i => ws[i]?))[k]? = some (some q) := by rw [hs, List.getElem?_map, hk]; rfl
  rw [List.getElem?_map] at h1
  cases hi : is[k]? with
  | none => rw [hi] at h1; cases h1
  | some i => rw [hi] at h1; exact h i q (Option.some.inj h1)
theorem j_perm (is : List Nat) {ws' : va_W} (hs : is.map (fun i => ws[i]?) = ws'.map some) (hn : va_nd is = true) (k : J p l e R s m args below meth c D A (va_D A) nL Q cells slots ws' lv st pc) : J p l e R s m args below meth c D A (va_D A) nL Q cells slots ws lv st pc :=
  fun H locs ls hP hD hS h => k H locs ls (P_map hP is hs) (hD.sub is hn hs) hS h
theorem j_widen {c2 s2 : Nat} (h1 : cells ≤ c2) (h2 : slots ≤ s2) (k : J p l e R s m args below meth c D A X nL Q c2 s2 ws lv st pc) : J p l e R s m args below meth c D A X nL Q cells slots ws lv st pc :=
  fun H locs ls hP hD hS h => W.widen h1 h2 (k H locs ls hP hD hS h)
theorem in_lt {i : Int32} {n : Nat} (h : vp_in i n) : i.toNatClampNeg < n := Nat.not_le.mp fun q => h (Or.inr q)
theorem j_iald (C : Cx p s m args meth c D tys cc nL own) (q0 : Nat) {t0 : Nat} {cA : ClassId} {n a : Nat} {f : Nat → Int32} {i : Int32} (ha : ws[q0]? = some (a, .inl (cA, n, .inl f))) (ht : tys[t0]? = some (cA, .int)) (hin : vp_in i n) (d : decode cc pc = .ok (.iaload, 1)) (k : J p l e R s m args below meth c D A X nL Q cells slots ws lv (.int (f i.toNatClampNeg) :: st) (pc + 1)) : J p l e R s m args below meth c D A X nL Q cells slots ws lv (.int i :: .ref a :: st) pc :=
  fun H locs ls hP hD hS h => va_iald C.1.1 C.1.2.1 C.2.1 hP q0 t0 ha ht hin d (k H locs ls hP hD hS h)
theorem j_iast (C : Cx p s m args meth c D tys cc nL own) (q0 : Nat) (ws' : va_W) {t0 : Nat} {cA : ClassId} {n a : Nat} {f : Nat → Int32} {i x : Int32} (ha : ws[q0]? = some (a, .inl (cA, n, .inl f))) (hw : ws.set q0 (a, .inl (cA, n, .inl (upd f i.toNatClampNeg x))) = ws') (ht : tys[t0]? = some (cA, .int)) (hin : vp_in i n) (d : decode cc pc = .ok (.iastore, 1)) (k : J p l e R s m args below meth c D A (va_D A) nL Q cells slots ws' lv st (pc + 1)) : J p l e R s m args below meth c D A (va_D A) nL Q cells slots ws lv (.int x :: .int i :: .ref a :: st) pc := by
  subst hw
  exact fun H locs ls hP hD hS h => va_iast C.1.1 C.1.2.1 C.2.1 hP hD hS q0 t0 ha ht hin d (fun H1 locs1 hP hD hS => k H1 locs1 ls hP hD hS h)
theorem j_alen (C : Cx p s m args meth c D tys cc nL own) (q0 : Nat) {t0 : Nat} {cA : ClassId} {x : vp_A} {a : Nat} {v : Int32} {ty : FieldType} (ha : ws[q0]? = some (a, .inl (cA, x))) (ht : tys[t0]? = some (cA, ty)) (hv : Int32.ofNat x.1 = v) (d : decode cc pc = .ok (.arraylength, 1)) (k : J p l e R s m args below meth c D A X nL Q cells slots ws lv (.int v :: st) (pc + 1)) : J p l e R s m args below meth c D A X nL Q cells slots ws lv (.ref a :: st) pc :=
  fun H locs ls hP hD hS h => va_alen C.1.1 C.1.2.1 C.2.1 hP q0 t0 ha ht hv d (k H locs ls hP hD hS h)
theorem j_ws {ws' : va_W} (hs : ws = ws') (k : J p l e R s m args below meth c D A X nL Q cells slots ws' lv st pc) : J p l e R s m args below meth c D A X nL Q cells slots ws lv st pc := hs ▸ k
theorem j_aald (C : Cx p s m args meth c D tys cc nL own) (q0 : Nat) {t0 : Nat} {cA : ClassId} {t : FieldType} {n a : Nat} {f : Nat → Nat} {i : Int32} (ha : ws[q0]? = some (a, .inl (cA, n, .inr (.inr (.inr (.inr (fun j => some (f j)))))))) (ht : tys[t0]? = some (cA, .array t)) (hin : vp_in i n) (d : decode cc pc = .ok (.aaload, 1)) (k : J p l e R s m args below meth c D A X nL Q cells slots ws lv (.ref (f i.toNatClampNeg) :: st) (pc + 1)) : J p l e R s m args below meth c D A X nL Q cells slots ws lv (.int i :: .ref a :: st) pc :=
  fun H locs ls hP hD hS h => W.aald (v := .ref (f i.toNatClampNeg)) (ty := .array t) C.1.1 C.1.2.1 (hP q0 _ ha) ((C.2.1.2 t0 _ ht).1 n (fun j => va_rf (some (f j)))) rfl (fun q => by cases q) (by show ¬ (i < 0 ∨ (arrV _ _ _).slots.size ≤ _); rw [arrV_size]; exact hin) (by show (arrV _ _ _).slots[_]? = _; rw [arrV_read _ _ (in_lt hin)]; rfl) rfl rfl d (k H locs ls hP hD hS h)
def mn (x y : Int32) : Int32 := if y < x then y else x
def mx (x y : Int32) : Int32 := if x < y then y else x
def MW (own : String) (index : Nat) (y : MethodName) (b : ByteArray) : Prop := Cond.methodLink own index y ∈ BIG ∧ Cond.static y ∈ BIG ∧ Cond.initialized "java/lang/Math" ∈ BIG ∧ Cond.code y b 2 (some .int) ∈ BIG
theorem j_mmin (C : Cx p s m args meth c D tys cc nL own) {index : Nat} (hw : MW own index Lib.Math.min.name Lib.Math.min.code) (hfr : 1 ≤ R.frames) (hlo : (st.map fun v => v.category).sum + 13 ≤ R.locals) (hc : cells ≤ R.cells ∧ slots ≤ R.slots) {x y : Int32} (d : decode cc pc = .ok (.invokestatic index, 3)) (k : J p l e R s m args below meth c D A X nL Q cells slots ws lv (.int (mn x y) :: st) (pc + 3)) : J p l e R s m args below meth c D A X nL Q cells slots ws lv (.int y :: .int x :: st) pc :=
  fun H locs ls hP hD hS h => va_mmin C.1.1 C.1.2.1 (C.1.2.2.1.trans h.1.symm) C.1.2.2.2.1 (C.1.2.2.2.2 _ hw.1) (C.1.2.2.2.2 _ hw.2.1) (C.1.2.2.2.2 _ hw.2.2.1) (C.1.2.2.2.2 _ hw.2.2.2) hfr hlo hc.1 hc.2 d (k H locs ls hP hD hS h)
theorem j_mmax (C : Cx p s m args meth c D tys cc nL own) {index : Nat} (hw : MW own index Lib.Math.max.name Lib.Math.max.code) (hfr : 1 ≤ R.frames) (hlo : (st.map fun v => v.category).sum + 13 ≤ R.locals) (hc : cells ≤ R.cells ∧ slots ≤ R.slots) {x y : Int32} (d : decode cc pc = .ok (.invokestatic index, 3)) (k : J p l e R s m args below meth c D A X nL Q cells slots ws lv (.int (mx x y) :: st) (pc + 3)) : J p l e R s m args below meth c D A X nL Q cells slots ws lv (.int y :: .int x :: st) pc :=
  fun H locs ls hP hD hS h => va_mmax C.1.1 C.1.2.1 (C.1.2.2.1.trans h.1.symm) C.1.2.2.2.1 (C.1.2.2.2.2 _ hw.1) (C.1.2.2.2.2 _ hw.2.1) (C.1.2.2.2.2 _ hw.2.2.1) (C.1.2.2.2.2 _ hw.2.2.2) hfr hlo hc.1 hc.2 d (k H locs ls hP hD hS h)
theorem j_newa (C : Cx p s m args meth c D tys cc nL own) (hA : ∀ q, s.heap.size ≤ q → A q) {t0 : Nat} {cA : ClassId} (ht : tys[t0]? = some (cA, .int)) (harr : Cond.arrayClass .int ∈ BIG) {n : Int32} {N : Nat} (hn : ¬ n < 0) (hN : n.toNatClampNeg = N) (hbytes : N * 4 ≤ 536870912) (hcells : cells + 1 ≤ R.cells) (hslots : slots + N ≤ R.slots) (d : decode cc pc = .ok (.newarray .int, 2)) (k : ∀ q : Nat, J p l e R s m args below meth c D A (va_D A) nL Q (cells + 1) (slots + N) (ws ++ [(q, .inl (cA, N, .inl (fun _ => 0)))]) lv (.ref q :: st) (pc + 2)) : J p l e R s m args below meth c D A (va_D A) nL Q cells slots ws lv (.int n :: st) pc :=
  fun H locs ls hP hD hS h => va_newa (atype := .int) (ty := .int) (a0 := (N, .inl (fun _ => 0))) C.1.1 C.1.2.1 (C.1.2.2.2.2 _ harr) rfl C.2.1 hP hD hS hA (fun _ => rfl) hn hN hbytes hcells hslots d (fun q cA' H1 hK hP1 hD1 hS1 => by
    have h1 : va_RA s cA' .int := (hK.2 tys.length (cA', .int) (by simp)).2
    have h2 : va_RA s cA .int := (C.2.1.2 t0 _ ht).2
    have e : cA' = cA := Option.some.inj (Eq.trans (Eq.symm (h1 : s.vm.findClass _ = some cA')) (h2 : s.vm.findClass _ = some cA))
    subst e
    exact k q H1 locs ls hP1 hD1 hS1 h)
theorem j_tald (C : Cx p s m args meth c D tys cc nL own) {t N : Nat} {f : Nat → Int32} (hT : va_T .int t N (fun j => .int (f j)) A s s.heap) {i : Int32} (hin : vp_in i N) (d : decode cc pc = .ok (.iaload, 1)) (k : J p l e R s m args below meth c D A X nL Q cells slots ws lv (.int (f i.toNatClampNeg) :: st) (pc + 1)) : J p l e R s m args below meth c D A X nL Q cells slots ws lv (.int i :: .ref t :: st) pc :=
  fun H locs ls hP hD hS h => va_ti C.1.1 C.1.2.1 hT hS hin rfl d (k H locs ls hP hD hS h)
theorem j_tlen (C : Cx p s m args meth c D tys cc nL own) {t N : Nat} {f : Nat → Int32} {v : Int32} (hT : va_T .int t N (fun j => .int (f j)) A s s.heap) (hv : Int32.ofNat N = v) (d : decode cc pc = .ok (.arraylength, 1)) (k : J p l e R s m args below meth c D A X nL Q cells slots ws lv (.int v :: st) (pc + 1)) : J p l e R s m args below meth c D A X nL Q cells slots ws lv (.ref t :: st) pc :=
  fun H locs ls hP hD hS h => va_tlen C.1.1 C.1.2.1 hT hS hv d (k H locs ls hP hD hS h)
/-! ===== contracts ===== -/
def no : Nat → Prop := fun _ => False
def KK (D : va_G) (tys : List (ClassId × FieldType)) (U : State) : Prop := va_K D vwCl tys U ∧ NW U
def PcP (av : List Value) (D : va_G) (tys : List (ClassId × FieldType)) (w : va_W) : Array Value → State → Prop := va_Pc av (fun U => va_P D vwCl w U.heap ∧ KK D tys U)
def QcP (r : Int32) : Array Value → State → Outcome → State → Prop := va_Qi (fun r' (_ : Unit) => r' = r) (fun _ _ => True) no
def PcI (av : List Value) (D : va_G) (tys : List (ClassId × FieldType)) (w : va_W) (sz : Nat) : Array Value → State → Prop := va_Pc av (fun U => U.heap.size = sz ∧ va_P D vwCl w U.heap ∧ KK D tys U ∧ va_D (fun _ => True) w)
def QcI {S : Type} (D : va_G) (r : Int32) (w : S → va_W) (A : Nat → Prop) : Array Value → State → Outcome → State → Prop := va_Qi (fun r' (_ : S) => r' = r) (fun q t => va_P D vwCl (w q) t.heap ∧ va_D A (w q)) A
def QcV {S : Type} (D : va_G) (w : S → va_W) (A : Nat → Prop) : Array Value → State → Outcome → State → Prop := va_Qv (fun (_ : S) => True) (fun q t => va_P D vwCl (w q) t.heap ∧ va_D A (w q)) A
theorem j_pret (C : Cx p s m args meth c D tys cc nL own) {r : Int32} (hr : meth.sig.returnType = some .int) (d : decode cc pc = .ok (.ireturn, 1)) : J p l e R s m args below meth c D no X nL (MQ below (QcP r) args s cells slots no) cells slots ws lv [.int r] pc :=
  fun H locs ls hP hD hS h => W.iret C.1.1 C.1.2.1 hr (fun t ht hW => ⟨⟨r, (), rfl, rfl, trivial⟩, hS.F ht⟩) hS.2.2 d C.2.2.2
theorem j_pretZ (C : Cx p s m args meth c D tys cc nL own) {r : Int32} (hr : meth.sig.returnType = some .boolean) (d : decode cc pc = .ok (.ireturn, 1)) (hb : r = 0 ∨ r = 1) : J p l e R s m args below meth c D no X nL (MQ below (QcP r) args s cells slots no) cells slots ws lv [.int r] pc :=
  fun H locs ls hP hD hS h => W.zret C.1.1 C.1.2.1 hr (zb_nar hb) (fun t ht hW => ⟨⟨r, (), rfl, rfl, trivial⟩, hS.F ht⟩) hS.2.2 d C.2.2.2
theorem j_iret (C : Cx p s m args meth c D tys cc nL own) {r : Int32} {S : Type} {w : S → va_W} (hr : meth.sig.returnType = some .int) (d : decode cc pc = .ok (.ireturn, 1)) (q : S) (hw : ws = w q) : J p l e R s m args below meth c D A (va_D A) nL (MQ below (QcI D r w A) args s cells slots A) cells slots ws lv [.int r] pc := by
  subst hw
  exact fun H locs ls hP hD hS h => W.iret C.1.1 C.1.2.1 hr (fun t ht hW => ⟨⟨r, q, rfl, rfl, by rw [ht]; exact hP, hD⟩, hS.F ht⟩) hS.2.2 d C.2.2.2
theorem j_iretZ (C : Cx p s m args meth c D tys cc nL own) {r : Int32} {S : Type} {w : S → va_W} (hr : meth.sig.returnType = some .boolean) (d : decode cc pc = .ok (.ireturn, 1)) (hb : r = 0 ∨ r = 1) (q : S) (hw : ws = w q) : J p l e R s m args below meth c D A (va_D A) nL (MQ below (QcI D r w A) args s cells slots A) cells slots ws lv [.int r] pc := by
  subst hw
  exact fun H locs ls hP hD hS h => W.zret C.1.1 C.1.2.1 hr (zb_nar hb) (fun t ht hW => ⟨⟨r, q, rfl, rfl, by rw [ht]; exact hP, hD⟩, hS.F ht⟩) hS.2.2 d C.2.2.2
theorem j_vret (C : Cx p s m args meth c D tys cc nL own) {S : Type} {w : S → va_W} (hr : meth.sig.returnType = none) (d : decode cc pc = .ok (.return_, 1)) (q : S) (hw : ws = w q) : J p l e R s m args below meth c D A (va_D A) nL (MQ below (QcV D w A) args s cells slots A) cells slots ws lv [] pc := by
  subst hw
  exact fun H locs ls hP hD hS h => W.vret C.1.1 C.1.2.1 hr (fun t ht hW => ⟨⟨q, rfl, trivial, by rw [ht]; exact hP, hD⟩, hS.F ht⟩) hS.2.2 d C.2.2.2
/-! ===== calls: a run of the callee, then on ===== -/
theorem j_P {st0 rest : List Value} {r : Int32} {a : Array Value} (hr : ∀ (H : Heap) (locs : List Loc) (ls : Array Slot), va_P D vwCl ws H → lv_has ls nL lv → va_Run p l e R s m args below meth c H locs cells slots 0 0 (F0 m pc ls st0) rest (QcP r a) no) (k : J p l e R s m args below meth c D A X nL Q cells slots ws lv (.int r :: rest) (pc + 3)) : J p l e R s m args below meth c D A X nL Q cells slots ws lv st0 pc :=
  fun H locs ls hP hD hS h => va_calli (hr H locs ls hP h) hS (fun _ _ z => z.elim) (fun _ z => z.elim) (fun r1 u t H1 locs1 ht hvm hw hB hz hk hS1 => by
    cases hw
    exact k H1 locs1 ls (hP.kept (fun k q hk' => hk q.1 ((hP k q hk').lt) (fun z => z.elim))) hD hS1 h)
theorem j_I {st0 rest : List Value} {r : Int32} {a : Array Value} {mc ms : Nat} {S : Type} {w : S → va_W} {wc wr : va_W} (hA : ∀ q, s.heap.size ≤ q → A q) (is ir : List Nat) (hs : is.map (fun i => ws[i]?) = wc.map some) (hr0 : ir.map (fun i => ws[i]?) = wr.map some) (hn : va_nd ir = true) (hdis : ∀ i ∈ ir, i ∉ is)
    (hr : ∀ (H : Heap) (locs : List Loc) (ls : Array Slot), va_P D vwCl ws H → va_D A ws → lv_has ls nL lv → va_Run p l e R s m args below meth c H locs cells slots mc ms (F0 m pc ls st0) rest (QcI D r w (va_A wc H.size) a) (va_A wc H.size)) (k : ∀ q : S, J p l e R s m args below meth c D A (va_D A) nL Q (cells + mc) (slots + ms) (wr ++ w q) lv (.int r :: rest) (pc + 3)) : J p l e R s m args below meth c D A (va_D A) nL Q cells slots ws lv st0 pc :=
  fun H locs ls hP hD hS h => va_calli (hr H locs ls hP hD h) hS (fun q _ z => va_free hD hS hA is hs q z) (fun q z => va_free hD hS hA is hs q z) (fun r1 u t H1 locs1 ht hvm hw hB hz hk hS1 => by
    cases hw
    obtain ⟨hP1, hD1⟩ := hB
    rw [ht] at hP1
    obtain ⟨hP2, hD2⟩ := va_join hP hD is ir hs hr0 hn hdis hk (va_free hD hS hA is hs) hP1 hD1
    exact k u H1 locs1 ls hP2 hD2 hS1 h)
theorem j_V {st0 rest : List Value} {a : Array Value} {mc ms : Nat} {S : Type} {w : S → va_W} {wc wr : va_W} (hA : ∀ q, s.heap.size ≤ q → A q) (is ir : List Nat) (hs : is.map (fun i => ws[i]?) = wc.map some) (hr0 : ir.map (fun i => ws[i]?) = wr.map some) (hn : va_nd ir = true) (hdis : ∀ i ∈ ir, i ∉ is)
    (hr : ∀ (H : Heap) (locs : List Loc) (ls : Array Slot), va_P D vwCl ws H → va_D A ws → lv_has ls nL lv → va_Run p l e R s m args below meth c H locs cells slots mc ms (F0 m pc ls st0) rest (QcV D w (va_A wc H.size) a) (va_A wc H.size)) (k : ∀ q : S, J p l e R s m args below meth c D A (va_D A) nL Q (cells + mc) (slots + ms) (wr ++ w q) lv rest (pc + 3)) : J p l e R s m args below meth c D A (va_D A) nL Q cells slots ws lv st0 pc :=
  fun H locs ls hP hD hS h => va_callv (hr H locs ls hP hD h) hS (fun q _ z => va_free hD hS hA is hs q z) (fun q z => va_free hD hS hA is hs q z) (fun u t H1 locs1 ht hvm hw hB hz hk hS1 => by
    obtain ⟨hP1, hD1⟩ := hB
    rw [ht] at hP1
    obtain ⟨hP2, hD2⟩ := va_join hP hD is ir hs hr0 hn hdis hk (va_free hD hS hA is hs) hP1 hD1
    exact k u H1 locs1 ls hP2 hD2 hS1 h)

theorem KK.moved {u U : State} (hW : u.WarmedH U.vm) (h : KK D tys u) : KK D tys U := ⟨va_K.moved hW.alike h.1, NW.moved hW h.2⟩
theorem KK.blind {U : State} (g : JFrame) (mk : MethodId) (a : Array Value) (h : KK D tys U) : KK D tys (U.calling g mk a) := ⟨va_K.moved (u := U) (U := U.calling g mk a) (Vm.Alike.refl U.vm) h.1, NW.same (u := U) (U := U.calling g mk a) rfl h.2⟩
theorem PcP.blind {av : List Value} {w : va_W} : FrameBlind (PcP av D tys w) := fun a U g mk q => ⟨q.1, q.2.1, KK.blind g mk a q.2.2⟩
theorem PcI.blind {av : List Value} {w : va_W} {sz : Nat} : FrameBlind (PcI av D tys w sz) := fun a U g mk q => ⟨q.1, q.2.1, q.2.2.1, KK.blind g mk a q.2.2.2.1, q.2.2.2.2⟩
theorem goodC {y : MethodName} {b : ByteArray} {k : Nat} {r : Option FieldType} (hc : Cond.code y b k r ∈ BIG) : GoodIn BIG (Cond.code y b k r :: BIG) := fun w hw => by
  rcases List.mem_cons.mp hw with rfl | h
  · exact ⟨hc, big_good _ hc⟩
  · exact ⟨h, big_good _ h⟩
theorem cB (C : Cx p s m args meth c D tys cc nL own) {y : MethodName} {bytes : ByteArray} {maxL n index mc ms : Nat} {ret : Option FieldType} {rm : Room} (hl : Cond.methodLink own index y ∈ BIG) (hi : Cond.initialized y.cls ∈ BIG) (hc : Cond.code y bytes maxL ret ∈ BIG) (hrc : rm.cells = mc) (hrs : rm.slots = ms) (hd : y.cls ≠ "java/lang/invoke/MethodHandle" ∧ y.cls ≠ "java/lang/invoke/VarHandle" ∧ (parseMethodDescriptor y.desc).map (fun d => d.parameters.length) = some n) (hR : rm.frames + 1 ≤ R.frames ∧ 8 + (maxL + 11) + rm.locals ≤ R.locals) : CallB R s args own index y bytes maxL ret (Cond.code y bytes maxL ret :: BIG) rm mc ms n :=
  callB_of n C.1.2.2.2.2 (goodC hc) rfl hrc hrs (C.1.2.2.2.2 _ hi) (C.1.2.2.2.2 _ hl) hd hR
theorem cN (C : Cx p s m args meth c D tys cc nL own) {y : MethodName} {bytes : ByteArray} {maxL n index mc ms : Nat} {ret : Option FieldType} {rm : Room} {host : String} (hi : Cond.initialized y.cls ∈ BIG) (hl : va_Nw (.methodLinkNest own index y host) s) (hc : Cond.code y bytes maxL ret ∈ BIG) (hrc : rm.cells = mc) (hrs : rm.slots = ms) (hd : y.cls ≠ "java/lang/invoke/MethodHandle" ∧ y.cls ≠ "java/lang/invoke/VarHandle" ∧ (parseMethodDescriptor y.desc).map (fun d => d.parameters.length) = some n) (hR : rm.frames + 1 ≤ R.frames ∧ 8 + (maxL + 11) + rm.locals ≤ R.locals) : va_CN R s args own index y host bytes maxL ret (Cond.code y bytes maxL ret :: BIG) rm mc ms n :=
  va_cnB n C.1.2.2.2.2 (goodC hc) rfl hrc hrs hl (C.1.2.2.2.2 _ hi) hd hR
theorem Cx.kk (C : Cx p s m args meth c D tys cc nL own) : KK D tys s := ⟨C.2.1, C.2.2.1⟩
theorem j_PV (C : Cx p s m args meth c D tys cc nL own) {y : MethodName} {bytes : ByteArray} {maxL n index : Nat} {ret : Option FieldType} {rm : Room} {b : Nat} (As : List Value) {rest st0 : List Value} {wc : va_W} {r : Int32} (q0 : Nat) {ci : Nat} {fs : List Value} {qc : vw_C} (he : ws[q0]? = some (b, .inr (ci, fs))) (hc : vwCl[ci]? = some qc) (hM : Met l y (Cond.code y bytes maxL ret :: BIG) rm (PcP (.ref b :: As) D tys wc) (QcP r) 0 0 no) (cw : CallW R s args own qc.1 index y bytes maxL ret (Cond.code y bytes maxL ret :: BIG) rm 0 0 n) (is : List Nat) (hs : is.map (fun i => ws[i]?) = wc.map some) (hn : As.length = n) (hst : st0 = As.reverse ++ .ref b :: rest) (hW : (rest.map fun v => v.category).sum ≤ 8) (d : decode cc pc = .ok (.invokevirtual index, 3)) (hf : cells ≤ R.cells ∧ slots ≤ R.slots) (k : J p l e R s m args below meth c D A X nL Q cells slots ws lv (.int r :: rest) (pc + 3)) : J p l e R s m args below meth c D A X nL Q cells slots ws lv st0 pc := by
  subst hst
  exact j_P (a := (Value.ref b :: As).toArray) (fun H locs ls hP h => va_runV C.1 hM cw ⟨PcP.blind, va_recv C.2.1 hP hc he, fun U hU hW1 => ⟨rfl, by rw [hU]; exact P_map hP is hs, C.kk.moved hW1⟩⟩ rfl hn h.1 rfl (lv_room hW) d hf) k
theorem j_PVN (C : Cx p s m args meth c D tys cc nL own) {y : MethodName} {bytes : ByteArray} {maxL n index : Nat} {ret : Option FieldType} {rm : Room} {b : Nat} (As : List Value) {rest st0 : List Value} {wc : va_W} {r : Int32} {host : String} (q0 : Nat) {ci : Nat} {fs : List Value} {qc : vw_C} (he : ws[q0]? = some (b, .inr (ci, fs))) (hc : vwCl[ci]? = some qc) (hM : Met l y (Cond.code y bytes maxL ret :: BIG) rm (PcP (.ref b :: As) D tys wc) (QcP r) 0 0 no) (cw : va_CN R s args own index y host bytes maxL ret (Cond.code y bytes maxL ret :: BIG) rm 0 0 n ∧ (Cond.instanceMethod y).before args s = true ∧ (Cond.selects qc.1 y y).before args s = true) (is : List Nat) (hs : is.map (fun i => ws[i]?) = wc.map some) (hn : As.length = n) (hst : st0 = As.reverse ++ .ref b :: rest) (hW : (rest.map fun v => v.category).sum ≤ 8) (d : decode cc pc = .ok (.invokevirtual index, 3)) (hf : cells ≤ R.cells ∧ slots ≤ R.slots) (k : J p l e R s m args below meth c D A X nL Q cells slots ws lv (.int r :: rest) (pc + 3)) : J p l e R s m args below meth c D A X nL Q cells slots ws lv st0 pc := by
  subst hst
  exact j_P (a := (Value.ref b :: As).toArray) (fun H locs ls hP h => va_runVN C.1 hM cw ⟨PcP.blind, va_recv C.2.1 hP hc he, fun U hU hW1 => ⟨rfl, by rw [hU]; exact P_map hP is hs, C.kk.moved hW1⟩⟩ rfl hn h.1 rfl (lv_room hW) d hf) k
theorem j_PS (C : Cx p s m args meth c D tys cc nL own) {y : MethodName} {bytes : ByteArray} {maxL n index : Nat} {ret : Option FieldType} {rm : Room} (As : List Value) {rest st0 : List Value} {wc : va_W} {r : Int32} (hM : Met l y (Cond.code y bytes maxL ret :: BIG) rm (PcP As D tys wc) (QcP r) 0 0 no) (cw : CallB R s args own index y bytes maxL ret (Cond.code y bytes maxL ret :: BIG) rm 0 0 n ∧ (Cond.static y).before args s = true) (is : List Nat) (hs : is.map (fun i => ws[i]?) = wc.map some) (hn : As.length = n) (hst : st0 = As.reverse ++ rest) (hW : (rest.map fun v => v.category).sum ≤ 8) (d : decode cc pc = .ok (.invokestatic index, 3)) (hf : cells ≤ R.cells ∧ slots ≤ R.slots) (k : J p l e R s m args below meth c D A X nL Q cells slots ws lv (.int r :: rest) (pc + 3)) : J p l e R s m args below meth c D A X nL Q cells slots ws lv st0 pc := by
  subst hst
  exact j_P (a := As.toArray) (fun H locs ls hP h => va_runS C.1 hM cw ⟨PcP.blind, fun U hU hW1 => ⟨rfl, by rw [hU]; exact P_map hP is hs, C.kk.moved hW1⟩⟩ rfl hn h.1 rfl (lv_room hW) d hf) k
theorem j_PSN (C : Cx p s m args meth c D tys cc nL own) {y : MethodName} {bytes : ByteArray} {maxL n index : Nat} {ret : Option FieldType} {rm : Room} (As : List Value) {rest st0 : List Value} {wc : va_W} {r : Int32} {host : String} (hM : Met l y (Cond.code y bytes maxL ret :: BIG) rm (PcP As D tys wc) (QcP r) 0 0 no) (cw : va_CN R s args own index y host bytes maxL ret (Cond.code y bytes maxL ret :: BIG) rm 0 0 n ∧ (Cond.static y).before args s = true ∧ True) (is : List Nat) (hs : is.map (fun i => ws[i]?) = wc.map some) (hn : As.length = n) (hst : st0 = As.reverse ++ rest) (hW : (rest.map fun v => v.category).sum ≤ 8) (d : decode cc pc = .ok (.invokestatic index, 3)) (hf : cells ≤ R.cells ∧ slots ≤ R.slots) (k : J p l e R s m args below meth c D A X nL Q cells slots ws lv (.int r :: rest) (pc + 3)) : J p l e R s m args below meth c D A X nL Q cells slots ws lv st0 pc := by
  subst hst
  exact j_P (a := As.toArray) (fun H locs ls hP h => va_runSN C.1 hM cw ⟨PcP.blind, fun U hU hW1 => ⟨rfl, by rw [hU]; exact P_map hP is hs, C.kk.moved hW1⟩⟩ rfl hn h.1 rfl (lv_room hW) d hf) k
theorem j_IV (C : Cx p s m args meth c D tys cc nL own) {y : MethodName} {bytes : ByteArray} {maxL n index : Nat} {ret : Option FieldType} {rm : Room} {b : Nat} (As : List Value) {rest st0 : List Value} {wc wr : va_W} {S : Type} {w : S → va_W} {r : Int32} {mc ms : Nat} (hA : ∀ q, s.heap.size ≤ q → A q) (q0 : Nat) {ci : Nat} {fs : List Value} {qc : vw_C} (he : ws[q0]? = some (b, .inr (ci, fs))) (hc : vwCl[ci]? = some qc) (hM : ∀ sz : Nat, Met l y (Cond.code y bytes maxL ret :: BIG) rm (PcI (.ref b :: As) D tys wc sz) (QcI D r w (va_A wc sz)) mc ms (va_A wc sz)) (cw : CallW R s args own qc.1 index y bytes maxL ret (Cond.code y bytes maxL ret :: BIG) rm mc ms n) (is ir : List Nat) (hs : is.map (fun i => ws[i]?) = wc.map some) (hr0 : ir.map (fun i => ws[i]?) = wr.map some) (hnd : va_nd is = true) (hn0 : va_nd ir = true) (hdis : ∀ i ∈ ir, i ∉ is) (hn : As.length = n) (hst : st0 = As.reverse ++ .ref b :: rest) (hW : (rest.map fun v => v.category).sum ≤ 8) (d : decode cc pc = .ok (.invokevirtual index, 3)) (hf : cells + mc ≤ R.cells ∧ slots + ms ≤ R.slots) (k : ∀ q : S, J p l e R s m args below meth c D A (va_D A) nL Q (cells + mc) (slots + ms) (wr ++ w q) lv (.int r :: rest) (pc + 3)) : J p l e R s m args below meth c D A (va_D A) nL Q cells slots ws lv st0 pc := by
  subst hst
  exact j_I (a := (Value.ref b :: As).toArray) (w := w) hA is ir hs hr0 hn0 hdis (fun H locs ls hP hD h => va_runV C.1 (hM H.size) cw ⟨PcI.blind, va_recv C.2.1 hP hc he, fun U hU hW1 => ⟨rfl, by rw [hU], by rw [hU]; exact P_map hP is hs, C.kk.moved hW1, (hD.sub is hnd hs).weaken (fun _ _ _ _ => trivial)⟩⟩ rfl hn h.1 rfl (lv_room hW) d hf) k
theorem j_IVN (C : Cx p s m args meth c D tys cc nL own) {y : MethodName} {bytes : ByteArray} {maxL n index : Nat} {ret : Option FieldType} {rm : Room} {b : Nat} (As : List Value) {rest st0 : List Value} {wc wr : va_W} {S : Type} {w : S → va_W} {r : Int32} {mc ms : Nat} {host : String} (hA : ∀ q, s.heap.size ≤ q → A q) (q0 : Nat) {ci : Nat} {fs : List Value} {qc : vw_C} (he : ws[q0]? = some (b, .inr (ci, fs))) (hc : vwCl[ci]? = some qc) (hM : ∀ sz : Nat, Met l y (Cond.code y bytes maxL ret :: BIG) rm (PcI (.ref b :: As) D tys wc sz) (QcI D r w (va_A wc sz)) mc ms (va_A wc sz)) (cw : va_CN R s args own index y host bytes maxL ret (Cond.code y bytes maxL ret :: BIG) rm mc ms n ∧ (Cond.instanceMethod y).before args s = true ∧ (Cond.selects qc.1 y y).before args s = true) (is ir : List Nat) (hs : is.map (fun i => ws[i]?) = wc.map some) (hr0 : ir.map (fun i => ws[i]?) = wr.map some) (hnd : va_nd is = true) (hn0 : va_nd ir = true) (hdis : ∀ i ∈ ir, i ∉ is) (hn : As.length = n) (hst : st0 = As.reverse ++ .ref b :: rest) (hW : (rest.map fun v => v.category).sum ≤ 8) (d : decode cc pc = .ok (.invokevirtual index, 3)) (hf : cells + mc ≤ R.cells ∧ slots + ms ≤ R.slots) (k : ∀ q : S, J p l e R s m args below meth c D A (va_D A) nL Q (cells + mc) (slots + ms) (wr ++ w q) lv (.int r :: rest) (pc + 3)) : J p l e R s m args below meth c D A (va_D A) nL Q cells slots ws lv st0 pc := by
  subst hst
  exact j_I (a := (Value.ref b :: As).toArray) (w := w) hA is ir hs hr0 hn0 hdis (fun H locs ls hP hD h => va_runVN C.1 (hM H.size) cw ⟨PcI.blind, va_recv C.2.1 hP hc he, fun U hU hW1 => ⟨rfl, by rw [hU], by rw [hU]; exact P_map hP is hs, C.kk.moved hW1, (hD.sub is hnd hs).weaken (fun _ _ _ _ => trivial)⟩⟩ rfl hn h.1 rfl (lv_room hW) d hf) k
theorem j_VV (C : Cx p s m args meth c D tys cc nL own) {y : MethodName} {bytes : ByteArray} {maxL n index : Nat} {ret : Option FieldType} {rm : Room} {b : Nat} (As : List Value) {rest st0 : List Value} {wc wr : va_W} {S : Type} {w : S → va_W} {mc ms : Nat} (hA : ∀ q, s.heap.size ≤ q → A q) (q0 : Nat) {ci : Nat} {fs : List Value} {qc : vw_C} (he : ws[q0]? = some (b, .inr (ci, fs))) (hc : vwCl[ci]? = some qc) (hM : ∀ sz : Nat, Met l y (Cond.code y bytes maxL ret :: BIG) rm (PcI (.ref b :: As) D tys wc sz) (QcV D w (va_A wc sz)) mc ms (va_A wc sz)) (cw : CallW R s args own qc.1 index y bytes maxL ret (Cond.code y bytes maxL ret :: BIG) rm mc ms n) (is ir : List Nat) (hs : is.map (fun i => ws[i]?) = wc.map some) (hr0 : ir.map (fun i => ws[i]?) = wr.map some) (hnd : va_nd is = true) (hn0 : va_nd ir = true) (hdis : ∀ i ∈ ir, i ∉ is) (hn : As.length = n) (hst : st0 = As.reverse ++ .ref b :: rest) (hW : (rest.map fun v => v.category).sum ≤ 8) (d : decode cc pc = .ok (.invokevirtual index, 3)) (hf : cells + mc ≤ R.cells ∧ slots + ms ≤ R.slots) (k : ∀ q : S, J p l e R s m args below meth c D A (va_D A) nL Q (cells + mc) (slots + ms) (wr ++ w q) lv rest (pc + 3)) : J p l e R s m args below meth c D A (va_D A) nL Q cells slots ws lv st0 pc := by
  subst hst
  exact j_V (a := (Value.ref b :: As).toArray) (w := w) hA is ir hs hr0 hn0 hdis (fun H locs ls hP hD h => va_runV C.1 (hM H.size) cw ⟨PcI.blind, va_recv C.2.1 hP hc he, fun U hU hW1 => ⟨rfl, by rw [hU], by rw [hU]; exact P_map hP is hs, C.kk.moved hW1, (hD.sub is hnd hs).weaken (fun _ _ _ _ => trivial)⟩⟩ rfl hn h.1 rfl (lv_room hW) d hf) k
theorem j_VVN (C : Cx p s m args meth c D tys cc nL own) {y : MethodName} {bytes : ByteArray} {maxL n index : Nat} {ret : Option FieldType} {rm : Room} {b : Nat} (As : List Value) {rest st0 : List Value} {wc wr : va_W} {S : Type} {w : S → va_W} {mc ms : Nat} {host : String} (hA : ∀ q, s.heap.size ≤ q → A q) (q0 : Nat) {ci : Nat} {fs : List Value} {qc : vw_C} (he : ws[q0]? = some (b, .inr (ci, fs))) (hc : vwCl[ci]? = some qc) (hM : ∀ sz : Nat, Met l y (Cond.code y bytes maxL ret :: BIG) rm (PcI (.ref b :: As) D tys wc sz) (QcV D w (va_A wc sz)) mc ms (va_A wc sz)) (cw : va_CN R s args own index y host bytes maxL ret (Cond.code y bytes maxL ret :: BIG) rm mc ms n ∧ (Cond.instanceMethod y).before args s = true ∧ (Cond.selects qc.1 y y).before args s = true) (is ir : List Nat) (hs : is.map (fun i => ws[i]?) = wc.map some) (hr0 : ir.map (fun i => ws[i]?) = wr.map some) (hnd : va_nd is = true) (hn0 : va_nd ir = true) (hdis : ∀ i ∈ ir, i ∉ is) (hn : As.length = n) (hst : st0 = As.reverse ++ .ref b :: rest) (hW : (rest.map fun v => v.category).sum ≤ 8) (d : decode cc pc = .ok (.invokevirtual index, 3)) (hf : cells + mc ≤ R.cells ∧ slots + ms ≤ R.slots) (k : ∀ q : S, J p l e R s m args below meth c D A (va_D A) nL Q (cells + mc) (slots + ms) (wr ++ w q) lv rest (pc + 3)) : J p l e R s m args below meth c D A (va_D A) nL Q cells slots ws lv st0 pc := by
  subst hst
  exact j_V (a := (Value.ref b :: As).toArray) (w := w) hA is ir hs hr0 hn0 hdis (fun H locs ls hP hD h => va_runVN C.1 (hM H.size) cw ⟨PcI.blind, va_recv C.2.1 hP hc he, fun U hU hW1 => ⟨rfl, by rw [hU], by rw [hU]; exact P_map hP is hs, C.kk.moved hW1, (hD.sub is hnd hs).weaken (fun _ _ _ _ => trivial)⟩⟩ rfl hn h.1 rfl (lv_room hW) d hf) k
theorem j_Is {st0 rest : List Value} {r : Int32} {a : Array Value} {mc ms : Nat} {S : Type} {w : S → va_W} {wc wr : va_W} (hA : ∀ q, s.heap.size ≤ q → A q) (is ir : List Nat) (hs : is.map (fun i => ws[i]?) = wc.map some) (hr0 : ir.map (fun i => ws[i]?) = wr.map some) (hn : va_nd ir = true) (hdis : ∀ i ∈ ir, i ∉ is)
    (hr : ∀ (H : Heap) (locs : List Loc) (ls : Array Slot), va_P D vwCl ws H → va_D A ws → va_S A s.heap H locs → lv_has ls nL lv → va_Run p l e R s m args below meth c H locs cells slots mc ms (F0 m pc ls st0) rest (QcI D r w (va_A wc H.size) a) (va_A wc H.size)) (k : ∀ q : S, J p l e R s m args below meth c D A (va_D A) nL Q (cells + mc) (slots + ms) (wr ++ w q) lv (.int r :: rest) (pc + 3)) : J p l e R s m args below meth c D A (va_D A) nL Q cells slots ws lv st0 pc :=
  fun H locs ls hP hD hS h => va_calli (hr H locs ls hP hD hS h) hS (fun q _ z => va_free hD hS hA is hs q z) (fun q z => va_free hD hS hA is hs q z) (fun r1 u t H1 locs1 ht hvm hw hB hz hk hS1 => by
    cases hw; obtain ⟨hP1, hD1⟩ := hB
    rw [ht] at hP1
    obtain ⟨hP2, hD2⟩ := va_join hP hD is ir hs hr0 hn hdis hk (va_free hD hS hA is hs) hP1 hD1
    exact k u H1 locs1 ls hP2 hD2 hS1 h)
theorem j_Vs {st0 rest : List Value} {a : Array Value} {mc ms : Nat} {S : Type} {w : S → va_W} {wc wr : va_W} (hA : ∀ q, s.heap.size ≤ q → A q) (is ir : List Nat) (hs : is.map (fun i => ws[i]?) = wc.map some) (hr0 : ir.map (fun i => ws[i]?) = wr.map some) (hn : va_nd ir = true) (hdis : ∀ i ∈ ir, i ∉ is)
    (hr : ∀ (H : Heap) (locs : List Loc) (ls : Array Slot), va_P D vwCl ws H → va_D A ws → va_S A s.heap H locs → lv_has ls nL lv → va_Run p l e R s m args below meth c H locs cells slots mc ms (F0 m pc ls st0) rest (QcV D w (va_A wc H.size) a) (va_A wc H.size)) (k : ∀ q : S, J p l e R s m args below meth c D A (va_D A) nL Q (cells + mc) (slots + ms) (wr ++ w q) lv rest (pc + 3)) : J p l e R s m args below meth c D A (va_D A) nL Q cells slots ws lv st0 pc :=
  fun H locs ls hP hD hS h => va_callv (hr H locs ls hP hD hS h) hS (fun q _ z => va_free hD hS hA is hs q z) (fun q z => va_free hD hS hA is hs q z) (fun u t H1 locs1 ht hvm hw hB hz hk hS1 => by
    obtain ⟨hP1, hD1⟩ := hB
    rw [ht] at hP1
    obtain ⟨hP2, hD2⟩ := va_join hP hD is ir hs hr0 hn hdis hk (va_free hD hS hA is hs) hP1 hD1
    exact k u H1 locs1 ls hP2 hD2 hS1 h)
def SX (t1 t2 : Nat) (A : Nat → Prop) (U : State) (H : Heap) : Prop := va_Z "MaskLayers" "HEAD_LEAST" "[I" (.ref t1) A U H ∧ va_T .int t1 7 (fun j => .int (hdLo j)) A U H ∧ va_Z "MaskLayers" "HEAD_MOST" "[I" (.ref t2) A U H ∧ va_T .int t2 7 (fun j => .int (hdHi j)) A U H
theorem SX.call {t1 t2 : Nat} {U : State} {H : Heap} {locs : List Loc} {B : Nat → Prop} (hX : SX t1 t2 A s s.heap) (hW : s.WarmedH U.vm) (hU : U.heap = H) (hS : va_S A s.heap H locs) (hB : ∀ q, B q → A q) : SX t1 t2 B U U.heap := by
  rw [hU]
  exact ⟨((hX.1.kept hS.2.1).narrow hB).moved hW.alike, ((hX.2.1.kept hS.2.1).narrow hB).moved hW.alike, ((hX.2.2.1.kept hS.2.1).narrow hB).moved hW.alike, ((hX.2.2.2.kept hS.2.1).narrow hB).moved hW.alike⟩
theorem SX.same {t1 t2 : Nat} {u U : State} {H : Heap} {B : Nat → Prop} (hvm : u.vm.Alike U.vm) (hX : SX t1 t2 B u H) : SX t1 t2 B U H := ⟨hX.1.moved hvm, hX.2.1.moved hvm, hX.2.2.1.moved hvm, hX.2.2.2.moved hvm⟩
def PcS (t1 t2 : Nat) (av : List Value) (D : va_G) (tys : List (ClassId × FieldType)) (w : va_W) (sz : Nat) : Array Value → State → Prop := va_Pc av (fun U => U.heap.size = sz ∧ va_P D vwCl w U.heap ∧ KK D tys U ∧ va_D (fun _ => True) w ∧ SX t1 t2 (va_A w sz) U U.heap)
theorem PcS.blind {t1 t2 : Nat} {av : List Value} {w : va_W} {sz : Nat} : FrameBlind (PcS t1 t2 av D tys w sz) := fun a U g mk q => ⟨q.1, q.2.1, q.2.2.1, KK.blind g mk a q.2.2.2.1, q.2.2.2.2.1, SX.same (u := U) (U := U.calling g mk a) (Vm.Alike.refl U.vm) q.2.2.2.2.2⟩
theorem j_VS (C : Cx p s m args meth c D tys cc nL own) {y : MethodName} {bytes : ByteArray} {maxL n index : Nat} {ret : Option FieldType} {rm : Room} (As : List Value) {rest st0 : List Value} {wc wr : va_W} {S : Type} {w : S → va_W} {mc ms : Nat} (hA : ∀ q, s.heap.size ≤ q → A q) (hM : ∀ sz : Nat, Met l y (Cond.code y bytes maxL ret :: BIG) rm (PcI As D tys wc sz) (QcV D w (va_A wc sz)) mc ms (va_A wc sz)) (cw : CallB R s args own index y bytes maxL ret (Cond.code y bytes maxL ret :: BIG) rm mc ms n ∧ (Cond.static y).before args s = true) (is ir : List Nat) (hs : is.map (fun i => ws[i]?) = wc.map some) (hr0 : ir.map (fun i => ws[i]?) = wr.map some) (hnd : va_nd is = true) (hn0 : va_nd ir = true) (hdis : ∀ i ∈ ir, i ∉ is) (hn : As.length = n) (hst : st0 = As.reverse ++ rest) (hW : (rest.map fun v => v.category).sum ≤ 8) (d : decode cc pc = .ok (.invokestatic index, 3)) (hf : cells + mc ≤ R.cells ∧ slots + ms ≤ R.slots) (k : ∀ q : S, J p l e R s m args below meth c D A (va_D A) nL Q (cells + mc) (slots + ms) (wr ++ w q) lv rest (pc + 3)) : J p l e R s m args below meth c D A (va_D A) nL Q cells slots ws lv st0 pc := by
  subst hst
  exact j_Vs (a := As.toArray) (w := w) hA is ir hs hr0 hn0 hdis (fun H locs ls hP hD hS h => va_runS C.1 (hM H.size) cw ⟨PcI.blind, fun U hU hW1 => ⟨rfl, by rw [hU], by rw [hU]; exact P_map hP is hs, C.kk.moved hW1, (hD.sub is hnd hs).weaken (fun _ _ _ _ => trivial)⟩⟩ rfl hn h.1 rfl (lv_room hW) d hf) k
theorem j_IVs (C : Cx p s m args meth c D tys cc nL own) {y : MethodName} {bytes : ByteArray} {maxL n index : Nat} {ret : Option FieldType} {rm : Room} {b : Nat} (As : List Value) {rest st0 : List Value} {wc wr : va_W} {S : Type} {w : S → va_W} {r : Int32} {mc ms : Nat} (hA : ∀ q, s.heap.size ≤ q → A q) {t1 t2 : Nat} (hX : SX t1 t2 A s s.heap) (q0 : Nat) {ci : Nat} {fs : List Value} {qc : vw_C} (he : ws[q0]? = some (b, .inr (ci, fs))) (hc : vwCl[ci]? = some qc) (hM : ∀ sz : Nat, Met l y (Cond.code y bytes maxL ret :: BIG) rm (PcS t1 t2 (.ref b :: As) D tys wc sz) (QcI D r w (va_A wc sz)) mc ms (va_A wc sz)) (cw : CallW R s args own qc.1 index y bytes maxL ret (Cond.code y bytes maxL ret :: BIG) rm mc ms n) (is ir : List Nat) (hs : is.map (fun i => ws[i]?) = wc.map some) (hr0 : ir.map (fun i => ws[i]?) = wr.map some) (hnd : va_nd is = true) (hn0 : va_nd ir = true) (hdis : ∀ i ∈ ir, i ∉ is) (hn : As.length = n) (hst : st0 = As.reverse ++ .ref b :: rest) (hW : (rest.map fun v => v.category).sum ≤ 8) (d : decode cc pc = .ok (.invokevirtual index, 3)) (hf : cells + mc ≤ R.cells ∧ slots + ms ≤ R.slots) (k : ∀ q : S, J p l e R s m args below meth c D A (va_D A) nL Q (cells + mc) (slots + ms) (wr ++ w q) lv (.int r :: rest) (pc + 3)) : J p l e R s m args below meth c D A (va_D A) nL Q cells slots ws lv st0 pc := by
  subst hst
  exact j_Is (a := (Value.ref b :: As).toArray) (w := w) hA is ir hs hr0 hn0 hdis (fun H locs ls hP hD hS h => va_runV C.1 (hM H.size) cw ⟨PcS.blind, va_recv C.2.1 hP hc he, fun U hU hW1 => ⟨rfl, by rw [hU], by rw [hU]; exact P_map hP is hs, C.kk.moved hW1, (hD.sub is hnd hs).weaken (fun _ _ _ _ => trivial), SX.call hX hW1 hU hS (va_free hD hS hA is hs)⟩⟩ rfl hn h.1 rfl (lv_room hW) d hf) k
theorem j_VVs (C : Cx p s m args meth c D tys cc nL own) {y : MethodName} {bytes : ByteArray} {maxL n index : Nat} {ret : Option FieldType} {rm : Room} {b : Nat} (As : List Value) {rest st0 : List Value} {wc wr : va_W} {S : Type} {w : S → va_W} {mc ms : Nat} (hA : ∀ q, s.heap.size ≤ q → A q) {t1 t2 : Nat} (hX : SX t1 t2 A s s.heap) (q0 : Nat) {ci : Nat} {fs : List Value} {qc : vw_C} (he : ws[q0]? = some (b, .inr (ci, fs))) (hc : vwCl[ci]? = some qc) (hM : ∀ sz : Nat, Met l y (Cond.code y bytes maxL ret :: BIG) rm (PcS t1 t2 (.ref b :: As) D tys wc sz) (QcV D w (va_A wc sz)) mc ms (va_A wc sz)) (cw : CallW R s args own qc.1 index y bytes maxL ret (Cond.code y bytes maxL ret :: BIG) rm mc ms n) (is ir : List Nat) (hs : is.map (fun i => ws[i]?) = wc.map some) (hr0 : ir.map (fun i => ws[i]?) = wr.map some) (hnd : va_nd is = true) (hn0 : va_nd ir = true) (hdis : ∀ i ∈ ir, i ∉ is) (hn : As.length = n) (hst : st0 = As.reverse ++ .ref b :: rest) (hW : (rest.map fun v => v.category).sum ≤ 8) (d : decode cc pc = .ok (.invokevirtual index, 3)) (hf : cells + mc ≤ R.cells ∧ slots + ms ≤ R.slots) (k : ∀ q : S, J p l e R s m args below meth c D A (va_D A) nL Q (cells + mc) (slots + ms) (wr ++ w q) lv rest (pc + 3)) : J p l e R s m args below meth c D A (va_D A) nL Q cells slots ws lv st0 pc := by
  subst hst
  exact j_Vs (a := (Value.ref b :: As).toArray) (w := w) hA is ir hs hr0 hn0 hdis (fun H locs ls hP hD hS h => va_runV C.1 (hM H.size) cw ⟨PcS.blind, va_recv C.2.1 hP hc he, fun U hU hW1 => ⟨rfl, by rw [hU], by rw [hU]; exact P_map hP is hs, C.kk.moved hW1, (hD.sub is hnd hs).weaken (fun _ _ _ _ => trivial), SX.call hX hW1 hU hS (va_free hD hS hA is hs)⟩⟩ rfl hn h.1 rfl (lv_room hW) d hf) k
theorem j_VI (C : Cx p s m args meth c D tys cc nL own) {y : MethodName} {bytes : ByteArray} {maxL n index : Nat} {ret : Option FieldType} {rm : Room} {b : Nat} (As : List Value) {rest st0 : List Value} {wc wr : va_W} {S : Type} {w : S → va_W} {mc ms : Nat} (hA : ∀ q, s.heap.size ≤ q → A q) (hM : ∀ sz : Nat, Met l y (Cond.code y bytes maxL none :: BIG) rm (PcI (.ref b :: As) D tys wc sz) (QcV D w (va_A wc sz)) mc ms (va_A wc sz)) (cw : CallB R s args own index y bytes maxL none (Cond.code y bytes maxL none :: BIG) rm mc ms n ∧ y.name = "<init>" ∧ (Cond.instanceMethod y).before args s = true) (is ir : List Nat) (hs : is.map (fun i => ws[i]?) = wc.map some) (hr0 : ir.map (fun i => ws[i]?) = wr.map some) (hnd : va_nd is = true) (hn0 : va_nd ir = true) (hdis : ∀ i ∈ ir, i ∉ is) (hn : As.length = n) (hst : st0 = As.reverse ++ .ref b :: rest) (hW : (rest.map fun v => v.category).sum ≤ 8) (d : decode cc pc = .ok (.invokespecial index, 3)) (hf : cells + mc ≤ R.cells ∧ slots + ms ≤ R.slots) (k : ∀ q : S, J p l e R s m args below meth c D A (va_D A) nL Q (cells + mc) (slots + ms) (wr ++ w q) lv rest (pc + 3)) : J p l e R s m args below meth c D A (va_D A) nL Q cells slots ws lv st0 pc := by
  subst hst
  exact j_Vs (a := (Value.ref b :: As).toArray) (w := w) hA is ir hs hr0 hn0 hdis (fun H locs ls hP hD hS h => va_runI C.1 (hM H.size) cw ⟨PcI.blind, fun U hU hW1 => ⟨rfl, by rw [hU], by rw [hU]; exact P_map hP is hs, C.kk.moved hW1, (hD.sub is hnd hs).weaken (fun _ _ _ _ => trivial)⟩⟩ rfl hn h.1 rfl (lv_room hW) d hf) k
theorem j_VIs (C : Cx p s m args meth c D tys cc nL own) {y : MethodName} {bytes : ByteArray} {maxL n index : Nat} {ret : Option FieldType} {rm : Room} {b : Nat} (As : List Value) {rest st0 : List Value} {wc wr : va_W} {S : Type} {w : S → va_W} {mc ms : Nat} (hA : ∀ q, s.heap.size ≤ q → A q) {t1 t2 : Nat} (hX : SX t1 t2 A s s.heap) (hM : ∀ sz : Nat, Met l y (Cond.code y bytes maxL none :: BIG) rm (PcS t1 t2 (.ref b :: As) D tys wc sz) (QcV D w (va_A wc sz)) mc ms (va_A wc sz)) (cw : CallB R s args own index y bytes maxL none (Cond.code y bytes maxL none :: BIG) rm mc ms n ∧ y.name = "<init>" ∧ (Cond.instanceMethod y).before args s = true) (is ir : List Nat) (hs : is.map (fun i => ws[i]?) = wc.map some) (hr0 : ir.map (fun i => ws[i]?) = wr.map some) (hnd : va_nd is = true) (hn0 : va_nd ir = true) (hdis : ∀ i ∈ ir, i ∉ is) (hn : As.length = n) (hst : st0 = As.reverse ++ .ref b :: rest) (hW : (rest.map fun v => v.category).sum ≤ 8) (d : decode cc pc = .ok (.invokespecial index, 3)) (hf : cells + mc ≤ R.cells ∧ slots + ms ≤ R.slots) (k : ∀ q : S, J p l e R s m args below meth c D A (va_D A) nL Q (cells + mc) (slots + ms) (wr ++ w q) lv rest (pc + 3)) : J p l e R s m args below meth c D A (va_D A) nL Q cells slots ws lv st0 pc := by
  subst hst
  exact j_Vs (a := (Value.ref b :: As).toArray) (w := w) hA is ir hs hr0 hn0 hdis (fun H locs ls hP hD hS h => va_runI C.1 (hM H.size) cw ⟨PcS.blind, fun U hU hW1 => ⟨rfl, by rw [hU], by rw [hU]; exact P_map hP is hs, C.kk.moved hW1, (hD.sub is hnd hs).weaken (fun _ _ _ _ => trivial), SX.call hX hW1 hU hS (va_free hD hS hA is hs)⟩⟩ rfl hn h.1 rfl (lv_room hW) d hf) k
end JR
theorem met_P {l : Launch} {y : MethodName} {cc : ByteArray} {maxL : Nat} {rt : FieldType} {rm : Room} {av : List Value} {D : va_G} {tys : List (ClassId × FieldType)} {w : va_W} {r : Int32} (hy : plainName y.cls = true) (hlen : (lg_sl av).length ≤ maxL)
    (body : ∀ (p : Program) (e : Env) (s : State) (m : MethodId) (args : Array Value) (below : List Frame) (meth : Method) (c : Code), Cx p s m args meth c D tys cc maxL y.cls → meth.sig.returnType = some rt → J p l e rm s m args below meth c D no (fun _ => True) maxL (MQ below (QcP r) args s 0 0 no) 0 0 w (lv_args 0 av) [] 0) : Met l y (Cond.code y cc maxL (some rt) :: BIG) rm (PcP av D tys w) (QcP r) 0 0 no := by
  refine Met.ofW (cc := cc) (maxL := maxL) (ret := some rt) hy rfl ?_
  intro p e s m args below meth c s₁ B hml hv
  obtain ⟨rfl, hP, hKK⟩ := hv
  have hts := atoms_spec (ws := Cond.code y cc maxL (some rt) :: BIG) B.pre
  have hown : s.vm.findClass y.cls = some m.cls := findClass_of_methodNamed B.named
  have hl := lv_entry av (n := maxL) hlen
  rw [lg_entry_eq]
  exact body p e s m _ below meth c ⟨⟨B.exec, B.bytes, hml, hown, fun w hw => hts w (List.mem_cons_of_mem _ hw)⟩, hKK.1, hKK.2, B.notSynchronized⟩ B.returns s.heap [] _ hP trivial va_S.rf hl
theorem met_I {l : Launch} {y : MethodName} {cc : ByteArray} {maxL mc ms : Nat} {rt : FieldType} {rm : Room} {av : List Value} {D : va_G} {tys : List (ClassId × FieldType)} {w : va_W} {S : Type} {w1 : S → va_W} {r : Int32} {sz : Nat} (hy : plainName y.cls = true) (hlen : (lg_sl av).length ≤ maxL)
    (body : ∀ (p : Program) (e : Env) (s : State) (m : MethodId) (args : Array Value) (below : List Frame) (meth : Method) (c : Code) (A : Nat → Prop), (∀ q : Nat, s.heap.size ≤ q → A q) → Cx p s m args meth c D tys cc maxL y.cls → meth.sig.returnType = some rt → J p l e rm s m args below meth c D A (va_D A) maxL (MQ below (QcI D r w1 A) args s mc ms A) 0 0 w (lv_args 0 av) [] 0) : Met l y (Cond.code y cc maxL (some rt) :: BIG) rm (PcI av D tys w sz) (QcI D r w1 (va_A w sz)) mc ms (va_A w sz) := by
  refine Met.ofW (cc := cc) (maxL := maxL) (ret := some rt) hy rfl ?_
  intro p e s m args below meth c s₁ B hml hv
  obtain ⟨rfl, hsz, hP, hKK, hD0⟩ := hv
  subst hsz
  have hts := atoms_spec (ws := Cond.code y cc maxL (some rt) :: BIG) B.pre
  have hown : s.vm.findClass y.cls = some m.cls := findClass_of_methodNamed B.named
  have hl := lv_entry av (n := maxL) hlen
  rw [lg_entry_eq]
  exact body p e s m _ below meth c (va_A w s.heap.size) (fun q h => Or.inr h) ⟨⟨B.exec, B.bytes, hml, hown, fun w hw => hts w (List.mem_cons_of_mem _ hw)⟩, hKK.1, hKK.2, B.notSynchronized⟩ B.returns s.heap [] _ hP hD0.self va_S.rf hl
theorem met_V {l : Launch} {y : MethodName} {cc : ByteArray} {maxL mc ms : Nat} {rm : Room} {av : List Value} {D : va_G} {tys : List (ClassId × FieldType)} {w : va_W} {S : Type} {w1 : S → va_W} {sz : Nat} (hy : plainName y.cls = true) (hlen : (lg_sl av).length ≤ maxL)
    (body : ∀ (p : Program) (e : Env) (s : State) (m : MethodId) (args : Array Value) (below : List Frame) (meth : Method) (c : Code) (A : Nat → Prop), (∀ q : Nat, s.heap.size ≤ q → A q) → Cx p s m args meth c D tys cc maxL y.cls → meth.sig.returnType = none → J p l e rm s m args below meth c D A (va_D A) maxL (MQ below (QcV D w1 A) args s mc ms A) 0 0 w (lv_args 0 av) [] 0) : Met l y (Cond.code y cc maxL none :: BIG) rm (PcI av D tys w sz) (QcV D w1 (va_A w sz)) mc ms (va_A w sz) := by
  refine Met.ofW (cc := cc) (maxL := maxL) (ret := none) hy rfl ?_
  intro p e s m args below meth c s₁ B hml hv
  obtain ⟨rfl, hsz, hP, hKK, hD0⟩ := hv
  subst hsz
  have hts := atoms_spec (ws := Cond.code y cc maxL none :: BIG) B.pre
  have hown : s.vm.findClass y.cls = some m.cls := findClass_of_methodNamed B.named
  have hl := lv_entry av (n := maxL) hlen
  rw [lg_entry_eq]
  exact body p e s m _ below meth c (va_A w s.heap.size) (fun q h => Or.inr h) ⟨⟨B.exec, B.bytes, hml, hown, fun w hw => hts w (List.mem_cons_of_mem _ hw)⟩, hKK.1, hKK.2, B.notSynchronized⟩ B.returns s.heap [] _ hP hD0.self va_S.rf hl
theorem met_Is {t1 t2 : Nat} {l : Launch} {y : MethodName} {cc : ByteArray} {maxL mc ms : Nat} {rt : FieldType} {rm : Room} {av : List Value} {D : va_G} {tys : List (ClassId × FieldType)} {w : va_W} {S : Type} {w1 : S → va_W} {r : Int32} {sz : Nat} (hy : plainName y.cls = true) (hlen : (lg_sl av).length ≤ maxL)
    (body : ∀ (p : Program) (e : Env) (s : State) (m : MethodId) (args : Array Value) (below : List Frame) (meth : Method) (c : Code) (A : Nat → Prop), (∀ q : Nat, s.heap.size ≤ q → A q) → SX t1 t2 A s s.heap → Cx p s m args meth c D tys cc maxL y.cls → meth.sig.returnType = some rt → J p l e rm s m args below meth c D A (va_D A) maxL (MQ below (QcI D r w1 A) args s mc ms A) 0 0 w (lv_args 0 av) [] 0) : Met l y (Cond.code y cc maxL (some rt) :: BIG) rm (PcS t1 t2 av D tys w sz) (QcI D r w1 (va_A w sz)) mc ms (va_A w sz) := by
  refine Met.ofW (cc := cc) (maxL := maxL) (ret := some rt) hy rfl ?_
  intro p e s m args below meth c s₁ B hml hv
  obtain ⟨rfl, hsz, hP, hKK, hD0, hX⟩ := hv
  subst hsz
  have hts := atoms_spec (ws := Cond.code y cc maxL (some rt) :: BIG) B.pre
  have hown : s.vm.findClass y.cls = some m.cls := findClass_of_methodNamed B.named
  have hl := lv_entry av (n := maxL) hlen
  rw [lg_entry_eq]
  exact body p e s m _ below meth c (va_A w s.heap.size) (fun q h => Or.inr h) hX ⟨⟨B.exec, B.bytes, hml, hown, fun w hw => hts w (List.mem_cons_of_mem _ hw)⟩, hKK.1, hKK.2, B.notSynchronized⟩ B.returns s.heap [] _ hP hD0.self va_S.rf hl
theorem met_Vs {t1 t2 : Nat} {l : Launch} {y : MethodName} {cc : ByteArray} {maxL mc ms : Nat} {rm : Room} {av : List Value} {D : va_G} {tys : List (ClassId × FieldType)} {w : va_W} {S : Type} {w1 : S → va_W} {sz : Nat} (hy : plainName y.cls = true) (hlen : (lg_sl av).length ≤ maxL)
    (body : ∀ (p : Program) (e : Env) (s : State) (m : MethodId) (args : Array Value) (below : List Frame) (meth : Method) (c : Code) (A : Nat → Prop), (∀ q : Nat, s.heap.size ≤ q → A q) → SX t1 t2 A s s.heap → Cx p s m args meth c D tys cc maxL y.cls → meth.sig.returnType = none → J p l e rm s m args below meth c D A (va_D A) maxL (MQ below (QcV D w1 A) args s mc ms A) 0 0 w (lv_args 0 av) [] 0) : Met l y (Cond.code y cc maxL none :: BIG) rm (PcS t1 t2 av D tys w sz) (QcV D w1 (va_A w sz)) mc ms (va_A w sz) := by
  refine Met.ofW (cc := cc) (maxL := maxL) (ret := none) hy rfl ?_
  intro p e s m args below meth c s₁ B hml hv
  obtain ⟨rfl, hsz, hP, hKK, hD0, hX⟩ := hv
  subst hsz
  have hts := atoms_spec (ws := Cond.code y cc maxL none :: BIG) B.pre
  have hown : s.vm.findClass y.cls = some m.cls := findClass_of_methodNamed B.named
  have hl := lv_entry av (n := maxL) hlen
  rw [lg_entry_eq]
  exact body p e s m _ below meth c (va_A w s.heap.size) (fun q h => Or.inr h) hX ⟨⟨B.exec, B.bytes, hml, hown, fun w hw => hts w (List.mem_cons_of_mem _ hw)⟩, hKK.1, hKK.2, B.notSynchronized⟩ B.returns s.heap [] _ hP hD0.self va_S.rf hl
end
section
section WO
variable {p : Program} {l : Launch} {e : Env} {R : Room} {s : State} {m : MethodId} {args : Array Value} {below : List Frame} {meth : Method} {c : Code} {D : va_G} {A : Nat → Prop} {X : va_W → Prop} {nL : Nat} {Q : State → Prop} {cells slots : Nat} {ws : va_W} {lv : List (Nat × Value)} {st : List Value} {pc : Nat}
variable {tys : List (ClassId × FieldType)} {cc : ByteArray}
theorem gf_Layers_11 (C : Cx p s m args meth c D tys cc nL "MaskLayers$Layers") (q0 : Nat) {a : Nat} {fs : List Value} {v : Value} (he : ws[q0]? = some (a, .inr (1, fs))) (hv : fs[0]? = some v) (d : decode cc pc = .ok (.getfield 11, 3)) (kk : J p l e R s m args below meth c D A X nL Q cells slots ws lv (v :: st) (pc + 3)) : J p l e R s m args below meth c D A X nL Q cells slots ws lv (.ref a :: st) pc :=
  fun H locs ls hP hD hS h => va_get (C := cn1) (T := cf1) (N := 8) C.1.1 C.1.2.1 C.1.2.2.2.2 ch1 C.1.2.2.2.1 C.2.1 hP q0 he rfl 0 (by decide) (C.1.2.2.2.2 (.fieldLink "MaskLayers$Layers" 11 "MaskLayers$Layers" "values" "[[I") (mb (by decide +kernel) rfl)) (fun _ h9 => h9) hv d (kk H locs ls hP hD hS h)
theorem gf_Layers_16 (C : Cx p s m args meth c D tys cc nL "MaskLayers$Layers") (q0 : Nat) {a : Nat} {fs : List Value} {v : Value} (he : ws[q0]? = some (a, .inr (1, fs))) (hv : fs[1]? = some v) (d : decode cc pc = .ok (.getfield 16, 3)) (kk : J p l e R s m args below meth c D A X nL Q cells slots ws lv (v :: st) (pc + 3)) : J p l e R s m args below meth c D A X nL Q cells slots ws lv (.ref a :: st) pc :=
  fun H locs ls hP hD hS h => va_get (C := cn1) (T := cf1) (N := 8) C.1.1 C.1.2.1 C.1.2.2.2.2 ch1 C.1.2.2.2.1 C.2.1 hP q0 he rfl 1 (by decide) (C.1.2.2.2.2 (.fieldLink "MaskLayers$Layers" 16 "MaskLayers$Layers" "there" "[I") (mb (by decide +kernel) rfl)) (fun _ h9 => h9) hv d (kk H locs ls hP hD hS h)
theorem gf_Layers_20 (C : Cx p s m args meth c D tys cc nL "MaskLayers$Layers") (q0 : Nat) {a : Nat} {fs : List Value} {v : Value} (he : ws[q0]? = some (a, .inr (1, fs))) (hv : fs[2]? = some v) (d : decode cc pc = .ok (.getfield 20, 3)) (kk : J p l e R s m args below meth c D A X nL Q cells slots ws lv (v :: st) (pc + 3)) : J p l e R s m args below meth c D A X nL Q cells slots ws lv (.ref a :: st) pc :=
  fun H locs ls hP hD hS h => va_get (C := cn1) (T := cf1) (N := 8) C.1.1 C.1.2.1 C.1.2.2.2.2 ch1 C.1.2.2.2.1 C.2.1 hP q0 he rfl 2 (by decide) (C.1.2.2.2.2 (.fieldLink "MaskLayers$Layers" 20 "MaskLayers$Layers" "scales" "[I") (mb (by decide +kernel) rfl)) (fun _ h9 => h9) hv d (kk H locs ls hP hD hS h)
theorem gf_Layers_23 (C : Cx p s m args meth c D tys cc nL "MaskLayers$Layers") (q0 : Nat) {a : Nat} {fs : List Value} {v : Value} (he : ws[q0]? = some (a, .inr (1, fs))) (hv : fs[3]? = some v) (d : decode cc pc = .ok (.getfield 23, 3)) (kk : J p l e R s m args below meth c D A X nL Q cells slots ws lv (v :: st) (pc + 3)) : J p l e R s m args below meth c D A X nL Q cells slots ws lv (.ref a :: st) pc :=
  fun H locs ls hP hD hS h => va_get (C := cn1) (T := cf1) (N := 8) C.1.1 C.1.2.1 C.1.2.2.2.2 ch1 C.1.2.2.2.1 C.2.1 hP q0 he rfl 3 (by decide) (C.1.2.2.2.2 (.fieldLink "MaskLayers$Layers" 23 "MaskLayers$Layers" "columns" "[I") (mb (by decide +kernel) rfl)) (fun _ h9 => h9) hv d (kk H locs ls hP hD hS h)
theorem gf_Layers_26 (C : Cx p s m args meth c D tys cc nL "MaskLayers$Layers") (q0 : Nat) {a : Nat} {fs : List Value} {v : Value} (he : ws[q0]? = some (a, .inr (1, fs))) (hv : fs[6]? = some v) (d : decode cc pc = .ok (.getfield 26, 3)) (kk : J p l e R s m args below meth c D A X nL Q cells slots ws lv (v :: st) (pc + 3)) : J p l e R s m args below meth c D A X nL Q cells slots ws lv (.ref a :: st) pc :=
  fun H locs ls hP hD hS h => va_get (C := cn1) (T := cf1) (N := 8) C.1.1 C.1.2.1 C.1.2.2.2.2 ch1 C.1.2.2.2.1 C.2.1 hP q0 he rfl 6 (by decide) (C.1.2.2.2.2 (.fieldLink "MaskLayers$Layers" 26 "MaskLayers$Layers" "step" "I") (mb (by decide +kernel) rfl)) (fun _ h9 => h9) hv d (kk H locs ls hP hD hS h)
theorem gf_Layers_39 (C : Cx p s m args meth c D tys cc nL "MaskLayers$Layers") (q0 : Nat) {a : Nat} {fs : List Value} {v : Value} (he : ws[q0]? = some (a, .inr (1, fs))) (hv : fs[4]? = some v) (d : decode cc pc = .ok (.getfield 39, 3)) (kk : J p l e R s m args below meth c D A X nL Q cells slots ws lv (v :: st) (pc + 3)) : J p l e R s m args below meth c D A X nL Q cells slots ws lv (.ref a :: st) pc :=
  fun H locs ls hP hD hS h => va_get (C := cn1) (T := cf1) (N := 8) C.1.1 C.1.2.1 C.1.2.2.2.2 ch1 C.1.2.2.2.1 C.2.1 hP q0 he rfl 4 (by decide) (C.1.2.2.2.2 (.fieldLink "MaskLayers$Layers" 39 "MaskLayers$Layers" "width" "I") (mb (by decide +kernel) rfl)) (fun _ h9 => h9) hv d (kk H locs ls hP hD hS h)
theorem gf_Layers_42 (C : Cx p s m args meth c D tys cc nL "MaskLayers$Layers") (q0 : Nat) {a : Nat} {fs : List Value} {v : Value} (he : ws[q0]? = some (a, .inr (1, fs))) (hv : fs[5]? = some v) (d : decode cc pc = .ok (.getfield 42, 3)) (kk : J p l e R s m args below meth c D A X nL Q cells slots ws lv (v :: st) (pc + 3)) : J p l e R s m args below meth c D A X nL Q cells slots ws lv (.ref a :: st) pc :=
  fun H locs ls hP hD hS h => va_get (C := cn1) (T := cf1) (N := 8) C.1.1 C.1.2.1 C.1.2.2.2.2 ch1 C.1.2.2.2.1 C.2.1 hP q0 he rfl 5 (by decide) (C.1.2.2.2.2 (.fieldLink "MaskLayers$Layers" 42 "MaskLayers$Layers" "height" "I") (mb (by decide +kernel) rfl)) (fun _ h9 => h9) hv d (kk H locs ls hP hD hS h)
theorem m_ML_isByte : Cond.code y_ML_isByte b_ML_isByte 1 (some .boolean) ∈ BIG := mb (List.mem_of_getElem? (i := 738) (by decide +kernel)) rfl
theorem m_ML_parts : Cond.code y_ML_parts b_ML_parts 2 (some .int) ∈ BIG := mb (List.mem_of_getElem? (i := 278) (by decide +kernel)) rfl
theorem m_ML_red : Cond.code y_ML_red b_ML_red 1 (some .int) ∈ BIG := mb (List.mem_of_getElem? (i := 535) (by decide +kernel)) rfl
theorem m_ML_green : Cond.code y_ML_green b_ML_green 1 (some .int) ∈ BIG := mb (List.mem_of_getElem? (i := 538) (by decide +kernel)) rfl
theorem m_ML_blue : Cond.code y_ML_blue b_ML_blue 1 (some .int) ∈ BIG := mb (List.mem_of_getElem? (i := 541) (by decide +kernel)) rfl
theorem m_ML_colourOf : Cond.code y_ML_colourOf b_ML_colourOf 3 (some .int) ∈ BIG := mb (List.mem_of_getElem? (i := 336) (by decide +kernel)) rfl
theorem m_ML_sum : Cond.code y_ML_sum b_ML_sum 2 (some .int) ∈ BIG := mb (List.mem_of_getElem? (i := 793) (by decide +kernel)) rfl
theorem m_ML_difference : Cond.code y_ML_difference b_ML_difference 2 (some .int) ∈ BIG := mb (List.mem_of_getElem? (i := 575) (by decide +kernel)) rfl
theorem m_ML_middle : Cond.code y_ML_middle b_ML_middle 2 (some .int) ∈ BIG := mb (List.mem_of_getElem? (i := 555) (by decide +kernel)) rfl
theorem m_ML_mean : Cond.code y_ML_mean b_ML_mean 2 (some .int) ∈ BIG := mb (List.mem_of_getElem? (i := 544) (by decide +kernel)) rfl
theorem m_ML_plainBytes : Cond.code y_ML_plainBytes b_ML_plainBytes 2 (some .int) ∈ BIG := mb (List.mem_of_getElem? (i := 323) (by decide +kernel)) rfl
theorem m_Layers_has : Cond.code y_Layers_has b_Layers_has 3 (some .boolean) ∈ BIG := mb (List.mem_of_getElem? (i := 294) (by decide +kernel)) rfl
theorem m_Layers_hasSample : Cond.code y_Layers_hasSample b_Layers_hasSample 3 (some .boolean) ∈ BIG := mb (List.mem_of_getElem? (i := 603) (by decide +kernel)) rfl
theorem m_Layers_stripes : Cond.code y_Layers_stripes b_Layers_stripes 1 (some .int) ∈ BIG := mb (List.mem_of_getElem? (i := 282) (by decide +kernel)) rfl
theorem m_Layers_stripeOf : Cond.code y_Layers_stripeOf b_Layers_stripeOf 2 (some .int) ∈ BIG := mb (List.mem_of_getElem? (i := 572) (by decide +kernel)) rfl
theorem m_Layers_topOf : Cond.code y_Layers_topOf b_Layers_topOf 2 (some .int) ∈ BIG := mb (List.mem_of_getElem? (i := 527) (by decide +kernel)) rfl
theorem m_Layers_bottomOf : Cond.code y_Layers_bottomOf b_Layers_bottomOf 2 (some .int) ∈ BIG := mb (List.mem_of_getElem? (i := 531) (by decide +kernel)) rfl
theorem m_Layers_rowsOf : Cond.code y_Layers_rowsOf b_Layers_rowsOf 3 (some .int) ∈ BIG := mb (List.mem_of_getElem? (i := 319) (by decide +kernel)) rfl
theorem m_Layers_startOf : Cond.code y_Layers_startOf b_Layers_startOf 2 (some .int) ∈ BIG := mb (List.mem_of_getElem? (i := 310) (by decide +kernel)) rfl
theorem m_Layers_endOf : Cond.code y_Layers_endOf b_Layers_endOf 3 (some .int) ∈ BIG := mb (List.mem_of_getElem? (i := 314) (by decide +kernel)) rfl
theorem m_Layers_placeOf : Cond.code y_Layers_placeOf b_Layers_placeOf 6 (some .int) ∈ BIG := mb (List.mem_of_getElem? (i := 568) (by decide +kernel)) rfl
theorem m_Layers_valueAt : Cond.code y_Layers_valueAt b_Layers_valueAt 4 (some .int) ∈ BIG := mb (List.mem_of_getElem? (i := 608) (by decide +kernel)) rfl
theorem m_Layers_joinedAt : Cond.code y_Layers_joinedAt b_Layers_joinedAt 4 (some .int) ∈ BIG := mb (List.mem_of_getElem? (i := 635) (by decide +kernel)) rfl
theorem m_Layers_exactAt : Cond.code y_Layers_exactAt b_Layers_exactAt 4 (some .int) ∈ BIG := mb (List.mem_of_getElem? (i := 789) (by decide +kernel)) rfl
end WO
end
section
def rm_ML_isByte : Room := { frames := 0, cells := 0, slots := 0, locals := 0 }
def rm_ML_parts : Room := { frames := 0, cells := 0, slots := 0, locals := 0 }
def rm_ML_red : Room := { frames := 0, cells := 0, slots := 0, locals := 0 }
def rm_ML_green : Room := { frames := 0, cells := 0, slots := 0, locals := 0 }
def rm_ML_blue : Room := { frames := 0, cells := 0, slots := 0, locals := 0 }
def rm_ML_colourOf : Room := { frames := 0, cells := 0, slots := 0, locals := 0 }
def rm_ML_sum : Room := { frames := 1, cells := 0, slots := 0, locals := 22 }
def rm_ML_difference : Room := { frames := 1, cells := 0, slots := 0, locals := 22 }
def rm_ML_middle : Room := { frames := 1, cells := 0, slots := 0, locals := 22 }
def rm_ML_mean : Room := { frames := 0, cells := 0, slots := 0, locals := 0 }
def rm_ML_plainBytes : Room := { frames := 1, cells := 0, slots := 0, locals := 21 }
def rm_Layers_has : Room := { frames := 0, cells := 0, slots := 0, locals := 0 }
def rm_Layers_hasSample : Room := { frames := 0, cells := 0, slots := 0, locals := 0 }
def rm_Layers_stripes : Room := { frames := 1, cells := 0, slots := 0, locals := 21 }
def rm_Layers_stripeOf : Room := { frames := 0, cells := 0, slots := 0, locals := 0 }
def rm_Layers_topOf : Room := { frames := 0, cells := 0, slots := 0, locals := 0 }
def rm_Layers_bottomOf : Room := { frames := 1, cells := 0, slots := 0, locals := 21 }
def rm_Layers_rowsOf : Room := { frames := 1, cells := 0, slots := 0, locals := 21 }
def rm_Layers_startOf : Room := { frames := 0, cells := 0, slots := 0, locals := 0 }
def rm_Layers_endOf : Room := { frames := 2, cells := 0, slots := 0, locals := 43 }
def rm_Layers_placeOf : Room := { frames := 1, cells := 0, slots := 0, locals := 21 }
def rm_Layers_valueAt : Room := { frames := 2, cells := 0, slots := 0, locals := 46 }
def rm_Layers_joinedAt : Room := { frames := 3, cells := 0, slots := 0, locals := 69 }
def rm_Layers_exactAt : Room := { frames := 4, cells := 0, slots := 0, locals := 92 }
section WC
variable {p : Program} {l : Launch} {e : Env} {R : Room} {s : State} {m : MethodId} {args : Array Value} {below : List Frame} {meth : Method} {c : Code} {D : va_G} {A : Nat → Prop} {X : va_W → Prop} {nL : Nat} {Q : State → Prop} {cells slots : Nat} {ws : va_W} {lv : List (Nat × Value)} {st : List Value} {pc : Nat}
variable {tys : List (ClassId × FieldType)} {cc : ByteArray}
theorem cw_ML_109 (C : Cx p s m args meth c D tys cc nL "MaskLayers") (hR : rm_ML_parts.frames + 1 ≤ R.frames ∧ 8 + (2 + 11) + rm_ML_parts.locals ≤ R.locals) : CallB R s args "MaskLayers" 109 y_ML_parts b_ML_parts 2 (some .int) (Cond.code y_ML_parts b_ML_parts 2 (some .int) :: BIG) rm_ML_parts 0 0 2 ∧ (Cond.static y_ML_parts).before args s = true :=
  ⟨cB C (mb (by decide +kernel) rfl) (mb (by decide +kernel) rfl) m_ML_parts rfl rfl ⟨by decide, by decide, by decide +kernel⟩ hR, C.1.2.2.2.2 _ (mb (by decide +kernel) rfl)⟩
theorem cw_ML_206 (C : Cx p s m args meth c D tys cc nL "MaskLayers") (hR : rm_ML_red.frames + 1 ≤ R.frames ∧ 8 + (1 + 11) + rm_ML_red.locals ≤ R.locals) : CallB R s args "MaskLayers" 206 y_ML_red b_ML_red 1 (some .int) (Cond.code y_ML_red b_ML_red 1 (some .int) :: BIG) rm_ML_red 0 0 1 ∧ (Cond.static y_ML_red).before args s = true :=
  ⟨cB C (mb (by decide +kernel) rfl) (mb (by decide +kernel) rfl) m_ML_red rfl rfl ⟨by decide, by decide, by decide +kernel⟩ hR, C.1.2.2.2.2 _ (mb (by decide +kernel) rfl)⟩
theorem cw_ML_209 (C : Cx p s m args meth c D tys cc nL "MaskLayers") (hR : rm_ML_green.frames + 1 ≤ R.frames ∧ 8 + (1 + 11) + rm_ML_green.locals ≤ R.locals) : CallB R s args "MaskLayers" 209 y_ML_green b_ML_green 1 (some .int) (Cond.code y_ML_green b_ML_green 1 (some .int) :: BIG) rm_ML_green 0 0 1 ∧ (Cond.static y_ML_green).before args s = true :=
  ⟨cB C (mb (by decide +kernel) rfl) (mb (by decide +kernel) rfl) m_ML_green rfl rfl ⟨by decide, by decide, by decide +kernel⟩ hR, C.1.2.2.2.2 _ (mb (by decide +kernel) rfl)⟩
theorem cw_ML_212 (C : Cx p s m args meth c D tys cc nL "MaskLayers") (hR : rm_ML_blue.frames + 1 ≤ R.frames ∧ 8 + (1 + 11) + rm_ML_blue.locals ≤ R.locals) : CallB R s args "MaskLayers" 212 y_ML_blue b_ML_blue 1 (some .int) (Cond.code y_ML_blue b_ML_blue 1 (some .int) :: BIG) rm_ML_blue 0 0 1 ∧ (Cond.static y_ML_blue).before args s = true :=
  ⟨cB C (mb (by decide +kernel) rfl) (mb (by decide +kernel) rfl) m_ML_blue rfl rfl ⟨by decide, by decide, by decide +kernel⟩ hR, C.1.2.2.2.2 _ (mb (by decide +kernel) rfl)⟩
theorem cw_ML_215 (C : Cx p s m args meth c D tys cc nL "MaskLayers") (hR : rm_ML_colourOf.frames + 1 ≤ R.frames ∧ 8 + (3 + 11) + rm_ML_colourOf.locals ≤ R.locals) : CallB R s args "MaskLayers" 215 y_ML_colourOf b_ML_colourOf 3 (some .int) (Cond.code y_ML_colourOf b_ML_colourOf 3 (some .int) :: BIG) rm_ML_colourOf 0 0 3 ∧ (Cond.static y_ML_colourOf).before args s = true :=
  ⟨cB C (mb (by decide +kernel) rfl) (mb (by decide +kernel) rfl) m_ML_colourOf rfl rfl ⟨by decide, by decide, by decide +kernel⟩ hR, C.1.2.2.2.2 _ (mb (by decide +kernel) rfl)⟩
theorem cw_Layers_45 (C : Cx p s m args meth c D tys cc nL "MaskLayers$Layers") (hR : rm_ML_parts.frames + 1 ≤ R.frames ∧ 8 + (2 + 11) + rm_ML_parts.locals ≤ R.locals) : va_CN R s args "MaskLayers$Layers" 45 y_ML_parts "MaskLayers" b_ML_parts 2 (some .int) (Cond.code y_ML_parts b_ML_parts 2 (some .int) :: BIG) rm_ML_parts 0 0 2 ∧ (Cond.static y_ML_parts).before args s = true ∧ True :=
  ⟨cN C (mb (by decide +kernel) rfl) (C.2.2.1 (.methodLinkNest "MaskLayers$Layers" 45 y_ML_parts "MaskLayers") (nwm (by decide +kernel) rfl)) m_ML_parts rfl rfl ⟨by decide, by decide, by decide +kernel⟩ hR, C.1.2.2.2.2 _ (mb (by decide +kernel) rfl), trivial⟩
theorem mw_Layers_49 : MW "MaskLayers$Layers" 49 Lib.Math.min.name Lib.Math.min.code := ⟨mb (by decide +kernel) rfl, mb (by decide +kernel) rfl, mb (by decide +kernel) rfl, mb (by decide +kernel) rfl⟩
theorem cw_Layers_54 (C : Cx p s m args meth c D tys cc nL "MaskLayers$Layers") (hR : rm_Layers_startOf.frames + 1 ≤ R.frames ∧ 8 + (2 + 11) + rm_Layers_startOf.locals ≤ R.locals) : CallW R s args "MaskLayers$Layers" "MaskLayers$Layers" 54 y_Layers_startOf b_Layers_startOf 2 (some .int) (Cond.code y_Layers_startOf b_Layers_startOf 2 (some .int) :: BIG) rm_Layers_startOf 0 0 1 :=
  ⟨cB C (mb (by decide +kernel) rfl) (mb (by decide +kernel) rfl) m_Layers_startOf rfl rfl ⟨by decide, by decide, by decide +kernel⟩ hR, C.1.2.2.2.2 _ (mb (by decide +kernel) rfl), C.1.2.2.2.2 _ (mb (by decide +kernel) rfl)⟩
theorem cw_Layers_58 (C : Cx p s m args meth c D tys cc nL "MaskLayers$Layers") (hR : rm_Layers_rowsOf.frames + 1 ≤ R.frames ∧ 8 + (3 + 11) + rm_Layers_rowsOf.locals ≤ R.locals) : CallW R s args "MaskLayers$Layers" "MaskLayers$Layers" 58 y_Layers_rowsOf b_Layers_rowsOf 3 (some .int) (Cond.code y_Layers_rowsOf b_Layers_rowsOf 3 (some .int) :: BIG) rm_Layers_rowsOf 0 0 2 :=
  ⟨cB C (mb (by decide +kernel) rfl) (mb (by decide +kernel) rfl) m_Layers_rowsOf rfl rfl ⟨by decide, by decide, by decide +kernel⟩ hR, C.1.2.2.2.2 _ (mb (by decide +kernel) rfl), C.1.2.2.2.2 _ (mb (by decide +kernel) rfl)⟩
theorem cw_Layers_61 (C : Cx p s m args meth c D tys cc nL "MaskLayers$Layers") (hR : rm_Layers_stripeOf.frames + 1 ≤ R.frames ∧ 8 + (2 + 11) + rm_Layers_stripeOf.locals ≤ R.locals) : CallW R s args "MaskLayers$Layers" "MaskLayers$Layers" 61 y_Layers_stripeOf b_Layers_stripeOf 2 (some .int) (Cond.code y_Layers_stripeOf b_Layers_stripeOf 2 (some .int) :: BIG) rm_Layers_stripeOf 0 0 1 :=
  ⟨cB C (mb (by decide +kernel) rfl) (mb (by decide +kernel) rfl) m_Layers_stripeOf rfl rfl ⟨by decide, by decide, by decide +kernel⟩ hR, C.1.2.2.2.2 _ (mb (by decide +kernel) rfl), C.1.2.2.2.2 _ (mb (by decide +kernel) rfl)⟩
theorem cw_Layers_64 (C : Cx p s m args meth c D tys cc nL "MaskLayers$Layers") (hR : rm_Layers_has.frames + 1 ≤ R.frames ∧ 8 + (3 + 11) + rm_Layers_has.locals ≤ R.locals) : CallW R s args "MaskLayers$Layers" "MaskLayers$Layers" 64 y_Layers_has b_Layers_has 3 (some .boolean) (Cond.code y_Layers_has b_Layers_has 3 (some .boolean) :: BIG) rm_Layers_has 0 0 2 :=
  ⟨cB C (mb (by decide +kernel) rfl) (mb (by decide +kernel) rfl) m_Layers_has rfl rfl ⟨by decide, by decide, by decide +kernel⟩ hR, C.1.2.2.2.2 _ (mb (by decide +kernel) rfl), C.1.2.2.2.2 _ (mb (by decide +kernel) rfl)⟩
theorem cw_Layers_68 (C : Cx p s m args meth c D tys cc nL "MaskLayers$Layers") (hR : rm_Layers_placeOf.frames + 1 ≤ R.frames ∧ 8 + (6 + 11) + rm_Layers_placeOf.locals ≤ R.locals) : CallW R s args "MaskLayers$Layers" "MaskLayers$Layers" 68 y_Layers_placeOf b_Layers_placeOf 6 (some .int) (Cond.code y_Layers_placeOf b_Layers_placeOf 6 (some .int) :: BIG) rm_Layers_placeOf 0 0 3 :=
  ⟨cB C (mb (by decide +kernel) rfl) (mb (by decide +kernel) rfl) m_Layers_placeOf rfl rfl ⟨by decide, by decide, by decide +kernel⟩ hR, C.1.2.2.2.2 _ (mb (by decide +kernel) rfl), C.1.2.2.2.2 _ (mb (by decide +kernel) rfl)⟩
theorem cw_Layers_72 (C : Cx p s m args meth c D tys cc nL "MaskLayers$Layers") (hR : rm_Layers_valueAt.frames + 1 ≤ R.frames ∧ 8 + (4 + 11) + rm_Layers_valueAt.locals ≤ R.locals) : CallW R s args "MaskLayers$Layers" "MaskLayers$Layers" 72 y_Layers_valueAt b_Layers_valueAt 4 (some .int) (Cond.code y_Layers_valueAt b_Layers_valueAt 4 (some .int) :: BIG) rm_Layers_valueAt 0 0 3 :=
  ⟨cB C (mb (by decide +kernel) rfl) (mb (by decide +kernel) rfl) m_Layers_valueAt rfl rfl ⟨by decide, by decide, by decide +kernel⟩ hR, C.1.2.2.2.2 _ (mb (by decide +kernel) rfl), C.1.2.2.2.2 _ (mb (by decide +kernel) rfl)⟩
theorem cw_Layers_75 (C : Cx p s m args meth c D tys cc nL "MaskLayers$Layers") (hR : rm_Layers_joinedAt.frames + 1 ≤ R.frames ∧ 8 + (4 + 11) + rm_Layers_joinedAt.locals ≤ R.locals) : CallW R s args "MaskLayers$Layers" "MaskLayers$Layers" 75 y_Layers_joinedAt b_Layers_joinedAt 4 (some .int) (Cond.code y_Layers_joinedAt b_Layers_joinedAt 4 (some .int) :: BIG) rm_Layers_joinedAt 0 0 2 :=
  ⟨cB C (mb (by decide +kernel) rfl) (mb (by decide +kernel) rfl) m_Layers_joinedAt rfl rfl ⟨by decide, by decide, by decide +kernel⟩ hR, C.1.2.2.2.2 _ (mb (by decide +kernel) rfl), C.1.2.2.2.2 _ (mb (by decide +kernel) rfl)⟩
theorem cw_Layers_78 (C : Cx p s m args meth c D tys cc nL "MaskLayers$Layers") (hR : rm_ML_sum.frames + 1 ≤ R.frames ∧ 8 + (2 + 11) + rm_ML_sum.locals ≤ R.locals) : va_CN R s args "MaskLayers$Layers" 78 y_ML_sum "MaskLayers" b_ML_sum 2 (some .int) (Cond.code y_ML_sum b_ML_sum 2 (some .int) :: BIG) rm_ML_sum 0 0 2 ∧ (Cond.static y_ML_sum).before args s = true ∧ True :=
  ⟨cN C (mb (by decide +kernel) rfl) (C.2.2.1 (.methodLinkNest "MaskLayers$Layers" 78 y_ML_sum "MaskLayers") (nwm (by decide +kernel) rfl)) m_ML_sum rfl rfl ⟨by decide, by decide, by decide +kernel⟩ hR, C.1.2.2.2.2 _ (mb (by decide +kernel) rfl), trivial⟩
end WC
end
section
def ML_isByte (p1 : Int32) : Option Int32 :=
  (if p1 < 0 then zb 0 (some 0)
  else (if 255 < p1 then zb 0 (some 0)
  else zb 1 (some 1)))
set_option maxRecDepth 100000 in
set_option maxHeartbeats 4000000 in
theorem c_ML_isByte (l : Launch) (D : va_G) (cI cR cZ : ClassId)  (p1 : Int32) {res : Int32} (h : ML_isByte p1 = some res) : Met l y_ML_isByte (Cond.code y_ML_isByte b_ML_isByte 1 (some .boolean) :: BIG) rm_ML_isByte (PcP [.int p1] D (tyG cI cR cZ) ([])) (QcP res) 0 0 no := by
  refine met_P (by decide) (Nat.le_of_ble_eq_true rfl) (fun p e s m args below meth c C hr => ?_)
  have C : Cx p s m args meth c D (tyG cI cR cZ) b_ML_isByte 1 "MaskLayers" := C
  have hr : meth.sig.returnType = some .boolean := hr
  show J p l e rm_ML_isByte s m args below meth c D no (fun _ => True) 1 (MQ below (QcP res) args s 0 0 no) 0 0 ([]) [(0, .int p1)] [] 0
  unfold ML_isByte at h
  refine j_iload_n C 0 d_ML_isByte_0 rfl ?_
  refine j_if_lt C 15 d_ML_isByte_1 (by decide) (fun c5 => ?_) (fun c5 => ?_)
  · replace h := (if_pos c5).symm.trans h
    refine j_iconst C (v := 0) d_ML_isByte_15 (by decide) ?_
    obtain ⟨b1, h⟩ := zb_ok h
    cases h
    exact j_pretZ C hr d_ML_isByte_16 b1
  · replace h := (if_neg c5).symm.trans h
    refine j_iload_n C 0 d_ML_isByte_4 rfl ?_
    refine j_sipush C (v := 255) d_ML_isByte_5 (by decide) ?_
    refine j_icmp_gt C 15 d_ML_isByte_8 (by decide) (fun c4 => ?_) (fun c4 => ?_)
    · replace h := (if_pos c4).symm.trans h
      refine j_iconst C (v := 0) d_ML_isByte_15 (by decide) ?_
      obtain ⟨b2, h⟩ := zb_ok h
      cases h
      exact j_pretZ C hr d_ML_isByte_16 b2
    · replace h := (if_neg c4).symm.trans h
      refine j_iconst C (v := 1) d_ML_isByte_11 (by decide) ?_
      refine j_goto C 16 d_ML_isByte_12 (by decide) ?_
      obtain ⟨b3, h⟩ := zb_ok h
      cases h
      exact j_pretZ C hr d_ML_isByte_16 b3
def ML_parts (p1 : Int32) (p2 : Int32) : Option Int32 :=
  (if 1 ≤ p2 then dz p2 (some (((p1 + p2) - 1) / p2))
  else some 0)
set_option maxRecDepth 100000 in
set_option maxHeartbeats 4000000 in
theorem c_ML_parts (l : Launch) (D : va_G) (cI cR cZ : ClassId)  (p1 : Int32) (p2 : Int32) {res : Int32} (h : ML_parts p1 p2 = some res) : Met l y_ML_parts (Cond.code y_ML_parts b_ML_parts 2 (some .int) :: BIG) rm_ML_parts (PcP [.int p1, .int p2] D (tyG cI cR cZ) ([])) (QcP res) 0 0 no := by
  refine met_P (by decide) (Nat.le_of_ble_eq_true rfl) (fun p e s m args below meth c C hr => ?_)
  have C : Cx p s m args meth c D (tyG cI cR cZ) b_ML_parts 2 "MaskLayers" := C
  have hr : meth.sig.returnType = some .int := hr
  show J p l e rm_ML_parts s m args below meth c D no (fun _ => True) 2 (MQ below (QcP res) args s 0 0 no) 0 0 ([]) [(0, .int p1), (1, .int p2)] [] 0
  unfold ML_parts at h
  refine j_iload_n C 1 d_ML_parts_0 rfl ?_
  refine j_iconst C (v := 1) d_ML_parts_1 (by decide) ?_
  refine j_icmp_ge C 9 d_ML_parts_2 (by decide) (fun c2 => ?_) (fun c2 => ?_)
  · replace h := (if_pos c2).symm.trans h
    refine j_iload_n C 0 d_ML_parts_9 rfl ?_
    refine j_iload_n C 1 d_ML_parts_10 rfl ?_
    refine j_iadd C d_ML_parts_11 ?_
    refine j_iconst C (v := 1) d_ML_parts_12 (by decide) ?_
    refine j_isub C d_ML_parts_13 ?_
    refine j_iload_n C 1 d_ML_parts_14 rfl ?_
    obtain ⟨b1, h⟩ := dz_ok h
    refine j_idiv C d_ML_parts_15 b1 ?_
    cases h
    exact j_pret C hr d_ML_parts_16
  · replace h := (if_neg c2).symm.trans h
    refine j_iconst C (v := 0) d_ML_parts_5 (by decide) ?_
    refine j_goto C 16 d_ML_parts_6 (by decide) ?_
    cases h
    exact j_pret C hr d_ML_parts_16
def ML_red (p1 : Int32) : Option Int32 :=
  some ((p1 >>> ((16 : Int32) &&& 31)) &&& 255)
set_option maxRecDepth 100000 in
set_option maxHeartbeats 4000000 in
theorem c_ML_red (l : Launch) (D : va_G) (cI cR cZ : ClassId)  (p1 : Int32) {res : Int32} (h : ML_red p1 = some res) : Met l y_ML_red (Cond.code y_ML_red b_ML_red 1 (some .int) :: BIG) rm_ML_red (PcP [.int p1] D (tyG cI cR cZ) ([])) (QcP res) 0 0 no := by
  refine met_P (by decide) (Nat.le_of_ble_eq_true rfl) (fun p e s m args below meth c C hr => ?_)
  have C : Cx p s m args meth c D (tyG cI cR cZ) b_ML_red 1 "MaskLayers" := C
  have hr : meth.sig.returnType = some .int := hr
  show J p l e rm_ML_red s m args below meth c D no (fun _ => True) 1 (MQ below (QcP res) args s 0 0 no) 0 0 ([]) [(0, .int p1)] [] 0
  unfold ML_red at h
  refine j_iload_n C 0 d_ML_red_0 rfl ?_
  refine j_bipush C (v := 16) d_ML_red_1 (by decide) ?_
  refine j_ishr C d_ML_red_3 ?_
  refine j_sipush C (v := 255) d_ML_red_4 (by decide) ?_
  refine j_iand C d_ML_red_7 ?_
  cases h
  exact j_pret C hr d_ML_red_8
def ML_green (p1 : Int32) : Option Int32 :=
  some ((p1 >>> ((8 : Int32) &&& 31)) &&& 255)
set_option maxRecDepth 100000 in
set_option maxHeartbeats 4000000 in
theorem c_ML_green (l : Launch) (D : va_G) (cI cR cZ : ClassId)  (p1 : Int32) {res : Int32} (h : ML_green p1 = some res) : Met l y_ML_green (Cond.code y_ML_green b_ML_green 1 (some .int) :: BIG) rm_ML_green (PcP [.int p1] D (tyG cI cR cZ) ([])) (QcP res) 0 0 no := by
  refine met_P (by decide) (Nat.le_of_ble_eq_true rfl) (fun p e s m args below meth c C hr => ?_)
  have C : Cx p s m args meth c D (tyG cI cR cZ) b_ML_green 1 "MaskLayers" := C
  have hr : meth.sig.returnType = some .int := hr
  show J p l e rm_ML_green s m args below meth c D no (fun _ => True) 1 (MQ below (QcP res) args s 0 0 no) 0 0 ([]) [(0, .int p1)] [] 0
  unfold ML_green at h
  refine j_iload_n C 0 d_ML_green_0 rfl ?_
  refine j_bipush C (v := 8) d_ML_green_1 (by decide) ?_
  refine j_ishr C d_ML_green_3 ?_
  refine j_sipush C (v := 255) d_ML_green_4 (by decide) ?_
  refine j_iand C d_ML_green_7 ?_
  cases h
  exact j_pret C hr d_ML_green_8
def ML_blue (p1 : Int32) : Option Int32 :=
  some (p1 &&& 255)
set_option maxRecDepth 100000 in
set_option maxHeartbeats 4000000 in
theorem c_ML_blue (l : Launch) (D : va_G) (cI cR cZ : ClassId)  (p1 : Int32) {res : Int32} (h : ML_blue p1 = some res) : Met l y_ML_blue (Cond.code y_ML_blue b_ML_blue 1 (some .int) :: BIG) rm_ML_blue (PcP [.int p1] D (tyG cI cR cZ) ([])) (QcP res) 0 0 no := by
  refine met_P (by decide) (Nat.le_of_ble_eq_true rfl) (fun p e s m args below meth c C hr => ?_)
  have C : Cx p s m args meth c D (tyG cI cR cZ) b_ML_blue 1 "MaskLayers" := C
  have hr : meth.sig.returnType = some .int := hr
  show J p l e rm_ML_blue s m args below meth c D no (fun _ => True) 1 (MQ below (QcP res) args s 0 0 no) 0 0 ([]) [(0, .int p1)] [] 0
  unfold ML_blue at h
  refine j_iload_n C 0 d_ML_blue_0 rfl ?_
  refine j_sipush C (v := 255) d_ML_blue_1 (by decide) ?_
  refine j_iand C d_ML_blue_4 ?_
  cases h
  exact j_pret C hr d_ML_blue_5
def ML_colourOf (p1 : Int32) (p2 : Int32) (p3 : Int32) : Option Int32 :=
  some ((((p1 &&& 255) <<< ((16 : Int32) &&& 31)) ||| ((p2 &&& 255) <<< ((8 : Int32) &&& 31))) ||| (p3 &&& 255))
set_option maxRecDepth 100000 in
set_option maxHeartbeats 4000000 in
theorem c_ML_colourOf (l : Launch) (D : va_G) (cI cR cZ : ClassId)  (p1 : Int32) (p2 : Int32) (p3 : Int32) {res : Int32} (h : ML_colourOf p1 p2 p3 = some res) : Met l y_ML_colourOf (Cond.code y_ML_colourOf b_ML_colourOf 3 (some .int) :: BIG) rm_ML_colourOf (PcP [.int p1, .int p2, .int p3] D (tyG cI cR cZ) ([])) (QcP res) 0 0 no := by
  refine met_P (by decide) (Nat.le_of_ble_eq_true rfl) (fun p e s m args below meth c C hr => ?_)
  have C : Cx p s m args meth c D (tyG cI cR cZ) b_ML_colourOf 3 "MaskLayers" := C
  have hr : meth.sig.returnType = some .int := hr
  show J p l e rm_ML_colourOf s m args below meth c D no (fun _ => True) 3 (MQ below (QcP res) args s 0 0 no) 0 0 ([]) [(0, .int p1), (1, .int p2), (2, .int p3)] [] 0
  unfold ML_colourOf at h
  refine j_iload_n C 0 d_ML_colourOf_0 rfl ?_
  refine j_sipush C (v := 255) d_ML_colourOf_1 (by decide) ?_
  refine j_iand C d_ML_colourOf_4 ?_
  refine j_bipush C (v := 16) d_ML_colourOf_5 (by decide) ?_
  refine j_ishl C d_ML_colourOf_7 ?_
  refine j_iload_n C 1 d_ML_colourOf_8 rfl ?_
  refine j_sipush C (v := 255) d_ML_colourOf_9 (by decide) ?_
  refine j_iand C d_ML_colourOf_12 ?_
  refine j_bipush C (v := 8) d_ML_colourOf_13 (by decide) ?_
  refine j_ishl C d_ML_colourOf_15 ?_
  refine j_ior C d_ML_colourOf_16 ?_
  refine j_iload_n C 2 d_ML_colourOf_17 rfl ?_
  refine j_sipush C (v := 255) d_ML_colourOf_18 (by decide) ?_
  refine j_iand C d_ML_colourOf_21 ?_
  refine j_ior C d_ML_colourOf_22 ?_
  cases h
  exact j_pret C hr d_ML_colourOf_23
def ML_sum (p1 : Int32) (p2 : Int32) : Option Int32 :=
  (ML_red p1).bind fun r1 =>
  (ML_red p2).bind fun r2 =>
  (ML_green p1).bind fun r3 =>
  (ML_green p2).bind fun r4 =>
  (ML_blue p1).bind fun r5 =>
  (ML_blue p2).bind fun r6 =>
  (ML_colourOf (r1 + r2) (r3 + r4) (r5 + r6)).bind fun r7 =>
  some r7
set_option maxRecDepth 100000 in
set_option maxHeartbeats 4000000 in
theorem c_ML_sum (l : Launch) (D : va_G) (cI cR cZ : ClassId)  (p1 : Int32) (p2 : Int32) {res : Int32} (h : ML_sum p1 p2 = some res) : Met l y_ML_sum (Cond.code y_ML_sum b_ML_sum 2 (some .int) :: BIG) rm_ML_sum (PcP [.int p1, .int p2] D (tyG cI cR cZ) ([])) (QcP res) 0 0 no := by
  refine met_P (by decide) (Nat.le_of_ble_eq_true rfl) (fun p e s m args below meth c C hr => ?_)
  have C : Cx p s m args meth c D (tyG cI cR cZ) b_ML_sum 2 "MaskLayers" := C
  have hr : meth.sig.returnType = some .int := hr
  show J p l e rm_ML_sum s m args below meth c D no (fun _ => True) 2 (MQ below (QcP res) args s 0 0 no) 0 0 ([]) [(0, .int p1), (1, .int p2)] [] 0
  unfold ML_sum at h
  refine j_iload_n C 0 d_ML_sum_0 rfl ?_
  obtain ⟨r1, hr1, h⟩ := bd_ok h
  refine j_PS C [.int p1] (c_ML_red l D cI cR cZ p1 hr1) (cw_ML_206 C ⟨Nat.le_of_ble_eq_true rfl, Nat.le_of_ble_eq_true rfl⟩) [] rfl rfl rfl (Nat.le_of_ble_eq_true rfl) d_ML_sum_1 (by decide) ?_
  refine j_iload_n C 1 d_ML_sum_4 rfl ?_
  obtain ⟨r2, hr2, h⟩ := bd_ok h
  refine j_PS C [.int p2] (c_ML_red l D cI cR cZ p2 hr2) (cw_ML_206 C ⟨Nat.le_of_ble_eq_true rfl, Nat.le_of_ble_eq_true rfl⟩) [] rfl rfl rfl (Nat.le_of_ble_eq_true rfl) d_ML_sum_5 (by decide) ?_
  refine j_iadd C d_ML_sum_8 ?_
  refine j_iload_n C 0 d_ML_sum_9 rfl ?_
  obtain ⟨r3, hr3, h⟩ := bd_ok h
  refine j_PS C [.int p1] (c_ML_green l D cI cR cZ p1 hr3) (cw_ML_209 C ⟨Nat.le_of_ble_eq_true rfl, Nat.le_of_ble_eq_true rfl⟩) [] rfl rfl rfl (Nat.le_of_ble_eq_true rfl) d_ML_sum_10 (by decide) ?_
  refine j_iload_n C 1 d_ML_sum_13 rfl ?_
  obtain ⟨r4, hr4, h⟩ := bd_ok h
  refine j_PS C [.int p2] (c_ML_green l D cI cR cZ p2 hr4) (cw_ML_209 C ⟨Nat.le_of_ble_eq_true rfl, Nat.le_of_ble_eq_true rfl⟩) [] rfl rfl rfl (Nat.le_of_ble_eq_true rfl) d_ML_sum_14 (by decide) ?_
  refine j_iadd C d_ML_sum_17 ?_
  refine j_iload_n C 0 d_ML_sum_18 rfl ?_
  obtain ⟨r5, hr5, h⟩ := bd_ok h
  refine j_PS C [.int p1] (c_ML_blue l D cI cR cZ p1 hr5) (cw_ML_212 C ⟨Nat.le_of_ble_eq_true rfl, Nat.le_of_ble_eq_true rfl⟩) [] rfl rfl rfl (Nat.le_of_ble_eq_true rfl) d_ML_sum_19 (by decide) ?_
  refine j_iload_n C 1 d_ML_sum_22 rfl ?_
  obtain ⟨r6, hr6, h⟩ := bd_ok h
  refine j_PS C [.int p2] (c_ML_blue l D cI cR cZ p2 hr6) (cw_ML_212 C ⟨Nat.le_of_ble_eq_true rfl, Nat.le_of_ble_eq_true rfl⟩) [] rfl rfl rfl (Nat.le_of_ble_eq_true rfl) d_ML_sum_23 (by decide) ?_
  refine j_iadd C d_ML_sum_26 ?_
  obtain ⟨r7, hr7, h⟩ := bd_ok h
  refine j_PS C [.int (r1 + r2), .int (r3 + r4), .int (r5 + r6)] (c_ML_colourOf l D cI cR cZ (r1 + r2) (r3 + r4) (r5 + r6) hr7) (cw_ML_215 C ⟨Nat.le_of_ble_eq_true rfl, Nat.le_of_ble_eq_true rfl⟩) [] rfl rfl rfl (Nat.le_of_ble_eq_true rfl) d_ML_sum_27 (by decide) ?_
  cases h
  exact j_pret C hr d_ML_sum_30
def ML_difference (p1 : Int32) (p2 : Int32) : Option Int32 :=
  (ML_red p1).bind fun r1 =>
  (ML_red p2).bind fun r2 =>
  (ML_green p1).bind fun r3 =>
  (ML_green p2).bind fun r4 =>
  (ML_blue p1).bind fun r5 =>
  (ML_blue p2).bind fun r6 =>
  (ML_colourOf (r1 - r2) (r3 - r4) (r5 - r6)).bind fun r7 =>
  some r7
set_option maxRecDepth 100000 in
set_option maxHeartbeats 4000000 in
theorem c_ML_difference (l : Launch) (D : va_G) (cI cR cZ : ClassId)  (p1 : Int32) (p2 : Int32) {res : Int32} (h : ML_difference p1 p2 = some res) : Met l y_ML_difference (Cond.code y_ML_difference b_ML_difference 2 (some .int) :: BIG) rm_ML_difference (PcP [.int p1, .int p2] D (tyG cI cR cZ) ([])) (QcP res) 0 0 no := by
  refine met_P (by decide) (Nat.le_of_ble_eq_true rfl) (fun p e s m args below meth c C hr => ?_)
  have C : Cx p s m args meth c D (tyG cI cR cZ) b_ML_difference 2 "MaskLayers" := C
  have hr : meth.sig.returnType = some .int := hr
  show J p l e rm_ML_difference s m args below meth c D no (fun _ => True) 2 (MQ below (QcP res) args s 0 0 no) 0 0 ([]) [(0, .int p1), (1, .int p2)] [] 0
  unfold ML_difference at h
  refine j_iload_n C 0 d_ML_difference_0 rfl ?_
  obtain ⟨r1, hr1, h⟩ := bd_ok h
  refine j_PS C [.int p1] (c_ML_red l D cI cR cZ p1 hr1) (cw_ML_206 C ⟨Nat.le_of_ble_eq_true rfl, Nat.le_of_ble_eq_true rfl⟩) [] rfl rfl rfl (Nat.le_of_ble_eq_true rfl) d_ML_difference_1 (by decide) ?_
  refine j_iload_n C 1 d_ML_difference_4 rfl ?_
  obtain ⟨r2, hr2, h⟩ := bd_ok h
  refine j_PS C [.int p2] (c_ML_red l D cI cR cZ p2 hr2) (cw_ML_206 C ⟨Nat.le_of_ble_eq_true rfl, Nat.le_of_ble_eq_true rfl⟩) [] rfl rfl rfl (Nat.le_of_ble_eq_true rfl) d_ML_difference_5 (by decide) ?_
  refine j_isub C d_ML_difference_8 ?_
  refine j_iload_n C 0 d_ML_difference_9 rfl ?_
  obtain ⟨r3, hr3, h⟩ := bd_ok h
  refine j_PS C [.int p1] (c_ML_green l D cI cR cZ p1 hr3) (cw_ML_209 C ⟨Nat.le_of_ble_eq_true rfl, Nat.le_of_ble_eq_true rfl⟩) [] rfl rfl rfl (Nat.le_of_ble_eq_true rfl) d_ML_difference_10 (by decide) ?_
  refine j_iload_n C 1 d_ML_difference_13 rfl ?_
  obtain ⟨r4, hr4, h⟩ := bd_ok h
  refine j_PS C [.int p2] (c_ML_green l D cI cR cZ p2 hr4) (cw_ML_209 C ⟨Nat.le_of_ble_eq_true rfl, Nat.le_of_ble_eq_true rfl⟩) [] rfl rfl rfl (Nat.le_of_ble_eq_true rfl) d_ML_difference_14 (by decide) ?_
  refine j_isub C d_ML_difference_17 ?_
  refine j_iload_n C 0 d_ML_difference_18 rfl ?_
  obtain ⟨r5, hr5, h⟩ := bd_ok h
  refine j_PS C [.int p1] (c_ML_blue l D cI cR cZ p1 hr5) (cw_ML_212 C ⟨Nat.le_of_ble_eq_true rfl, Nat.le_of_ble_eq_true rfl⟩) [] rfl rfl rfl (Nat.le_of_ble_eq_true rfl) d_ML_difference_19 (by decide) ?_
  refine j_iload_n C 1 d_ML_difference_22 rfl ?_
  obtain ⟨r6, hr6, h⟩ := bd_ok h
  refine j_PS C [.int p2] (c_ML_blue l D cI cR cZ p2 hr6) (cw_ML_212 C ⟨Nat.le_of_ble_eq_true rfl, Nat.le_of_ble_eq_true rfl⟩) [] rfl rfl rfl (Nat.le_of_ble_eq_true rfl) d_ML_difference_23 (by decide) ?_
  refine j_isub C d_ML_difference_26 ?_
  obtain ⟨r7, hr7, h⟩ := bd_ok h
  refine j_PS C [.int (r1 - r2), .int (r3 - r4), .int (r5 - r6)] (c_ML_colourOf l D cI cR cZ (r1 - r2) (r3 - r4) (r5 - r6) hr7) (cw_ML_215 C ⟨Nat.le_of_ble_eq_true rfl, Nat.le_of_ble_eq_true rfl⟩) [] rfl rfl rfl (Nat.le_of_ble_eq_true rfl) d_ML_difference_27 (by decide) ?_
  cases h
  exact j_pret C hr d_ML_difference_30
def ML_middle (p1 : Int32) (p2 : Int32) : Option Int32 :=
  (ML_red p1).bind fun r1 =>
  (ML_red p2).bind fun r2 =>
  dz 2 ((ML_green p1).bind fun r4 =>
  (ML_green p2).bind fun r5 =>
  dz 2 ((ML_blue p1).bind fun r7 =>
  (ML_blue p2).bind fun r8 =>
  dz 2 ((ML_colourOf ((r1 + r2) / 2) ((r4 + r5) / 2) ((r7 + r8) / 2)).bind fun r10 =>
  some r10)))
set_option maxRecDepth 100000 in
set_option maxHeartbeats 4000000 in
theorem c_ML_middle (l : Launch) (D : va_G) (cI cR cZ : ClassId)  (p1 : Int32) (p2 : Int32) {res : Int32} (h : ML_middle p1 p2 = some res) : Met l y_ML_middle (Cond.code y_ML_middle b_ML_middle 2 (some .int) :: BIG) rm_ML_middle (PcP [.int p1, .int p2] D (tyG cI cR cZ) ([])) (QcP res) 0 0 no := by
  refine met_P (by decide) (Nat.le_of_ble_eq_true rfl) (fun p e s m args below meth c C hr => ?_)
  have C : Cx p s m args meth c D (tyG cI cR cZ) b_ML_middle 2 "MaskLayers" := C
  have hr : meth.sig.returnType = some .int := hr
  show J p l e rm_ML_middle s m args below meth c D no (fun _ => True) 2 (MQ below (QcP res) args s 0 0 no) 0 0 ([]) [(0, .int p1), (1, .int p2)] [] 0
  unfold ML_middle at h
  refine j_iload_n C 0 d_ML_middle_0 rfl ?_
  obtain ⟨r1, hr1, h⟩ := bd_ok h
  refine j_PS C [.int p1] (c_ML_red l D cI cR cZ p1 hr1) (cw_ML_206 C ⟨Nat.le_of_ble_eq_true rfl, Nat.le_of_ble_eq_true rfl⟩) [] rfl rfl rfl (Nat.le_of_ble_eq_true rfl) d_ML_middle_1 (by decide) ?_
  refine j_iload_n C 1 d_ML_middle_4 rfl ?_
  obtain ⟨r2, hr2, h⟩ := bd_ok h
  refine j_PS C [.int p2] (c_ML_red l D cI cR cZ p2 hr2) (cw_ML_206 C ⟨Nat.le_of_ble_eq_true rfl, Nat.le_of_ble_eq_true rfl⟩) [] rfl rfl rfl (Nat.le_of_ble_eq_true rfl) d_ML_middle_5 (by decide) ?_
  refine j_iadd C d_ML_middle_8 ?_
  refine j_iconst C (v := 2) d_ML_middle_9 (by decide) ?_
  obtain ⟨b3, h⟩ := dz_ok h
  refine j_idiv C d_ML_middle_10 b3 ?_
  refine j_iload_n C 0 d_ML_middle_11 rfl ?_
  obtain ⟨r4, hr4, h⟩ := bd_ok h
  refine j_PS C [.int p1] (c_ML_green l D cI cR cZ p1 hr4) (cw_ML_209 C ⟨Nat.le_of_ble_eq_true rfl, Nat.le_of_ble_eq_true rfl⟩) [] rfl rfl rfl (Nat.le_of_ble_eq_true rfl) d_ML_middle_12 (by decide) ?_
  refine j_iload_n C 1 d_ML_middle_15 rfl ?_
  obtain ⟨r5, hr5, h⟩ := bd_ok h
  refine j_PS C [.int p2] (c_ML_green l D cI cR cZ p2 hr5) (cw_ML_209 C ⟨Nat.le_of_ble_eq_true rfl, Nat.le_of_ble_eq_true rfl⟩) [] rfl rfl rfl (Nat.le_of_ble_eq_true rfl) d_ML_middle_16 (by decide) ?_
  refine j_iadd C d_ML_middle_19 ?_
  refine j_iconst C (v := 2) d_ML_middle_20 (by decide) ?_
  obtain ⟨b6, h⟩ := dz_ok h
  refine j_idiv C d_ML_middle_21 b6 ?_
  refine j_iload_n C 0 d_ML_middle_22 rfl ?_
  obtain ⟨r7, hr7, h⟩ := bd_ok h
  refine j_PS C [.int p1] (c_ML_blue l D cI cR cZ p1 hr7) (cw_ML_212 C ⟨Nat.le_of_ble_eq_true rfl, Nat.le_of_ble_eq_true rfl⟩) [] rfl rfl rfl (Nat.le_of_ble_eq_true rfl) d_ML_middle_23 (by decide) ?_
  refine j_iload_n C 1 d_ML_middle_26 rfl ?_
  obtain ⟨r8, hr8, h⟩ := bd_ok h
  refine j_PS C [.int p2] (c_ML_blue l D cI cR cZ p2 hr8) (cw_ML_212 C ⟨Nat.le_of_ble_eq_true rfl, Nat.le_of_ble_eq_true rfl⟩) [] rfl rfl rfl (Nat.le_of_ble_eq_true rfl) d_ML_middle_27 (by decide) ?_
  refine j_iadd C d_ML_middle_30 ?_
  refine j_iconst C (v := 2) d_ML_middle_31 (by decide) ?_
  obtain ⟨b9, h⟩ := dz_ok h
  refine j_idiv C d_ML_middle_32 b9 ?_
  obtain ⟨r10, hr10, h⟩ := bd_ok h
  refine j_PS C [.int ((r1 + r2) / 2), .int ((r4 + r5) / 2), .int ((r7 + r8) / 2)] (c_ML_colourOf l D cI cR cZ ((r1 + r2) / 2) ((r4 + r5) / 2) ((r7 + r8) / 2) hr10) (cw_ML_215 C ⟨Nat.le_of_ble_eq_true rfl, Nat.le_of_ble_eq_true rfl⟩) [] rfl rfl rfl (Nat.le_of_ble_eq_true rfl) d_ML_middle_33 (by decide) ?_
  cases h
  exact j_pret C hr d_ML_middle_36
def ML_mean (p1 : Int32) (p2 : Int32) : Option Int32 :=
  (if 1 ≤ p2 then dz (2 * p2) (some (((2 * p1) + p2) / (2 * p2)))
  else some 0)
set_option maxRecDepth 100000 in
set_option maxHeartbeats 4000000 in
theorem c_ML_mean (l : Launch) (D : va_G) (cI cR cZ : ClassId)  (p1 : Int32) (p2 : Int32) {res : Int32} (h : ML_mean p1 p2 = some res) : Met l y_ML_mean (Cond.code y_ML_mean b_ML_mean 2 (some .int) :: BIG) rm_ML_mean (PcP [.int p1, .int p2] D (tyG cI cR cZ) ([])) (QcP res) 0 0 no := by
  refine met_P (by decide) (Nat.le_of_ble_eq_true rfl) (fun p e s m args below meth c C hr => ?_)
  have C : Cx p s m args meth c D (tyG cI cR cZ) b_ML_mean 2 "MaskLayers" := C
  have hr : meth.sig.returnType = some .int := hr
  show J p l e rm_ML_mean s m args below meth c D no (fun _ => True) 2 (MQ below (QcP res) args s 0 0 no) 0 0 ([]) [(0, .int p1), (1, .int p2)] [] 0
  unfold ML_mean at h
  refine j_iload_n C 1 d_ML_mean_0 rfl ?_
  refine j_iconst C (v := 1) d_ML_mean_1 (by decide) ?_
  refine j_icmp_ge C 9 d_ML_mean_2 (by decide) (fun c2 => ?_) (fun c2 => ?_)
  · replace h := (if_pos c2).symm.trans h
    refine j_iconst C (v := 2) d_ML_mean_9 (by decide) ?_
    refine j_iload_n C 0 d_ML_mean_10 rfl ?_
    refine j_imul C d_ML_mean_11 ?_
    refine j_iload_n C 1 d_ML_mean_12 rfl ?_
    refine j_iadd C d_ML_mean_13 ?_
    refine j_iconst C (v := 2) d_ML_mean_14 (by decide) ?_
    refine j_iload_n C 1 d_ML_mean_15 rfl ?_
    refine j_imul C d_ML_mean_16 ?_
    obtain ⟨b1, h⟩ := dz_ok h
    refine j_idiv C d_ML_mean_17 b1 ?_
    cases h
    exact j_pret C hr d_ML_mean_18
  · replace h := (if_neg c2).symm.trans h
    refine j_iconst C (v := 0) d_ML_mean_5 (by decide) ?_
    refine j_goto C 18 d_ML_mean_6 (by decide) ?_
    cases h
    exact j_pret C hr d_ML_mean_18
def ML_plainBytes (p1 : Int32) (p2 : Int32) : Option Int32 :=
  (if p1 = 1 then (ML_parts p2 8).bind fun r1 =>
  some r1
  else some (3 * p2))
set_option maxRecDepth 100000 in
set_option maxHeartbeats 4000000 in
theorem c_ML_plainBytes (l : Launch) (D : va_G) (cI cR cZ : ClassId)  (p1 : Int32) (p2 : Int32) {res : Int32} (h : ML_plainBytes p1 p2 = some res) : Met l y_ML_plainBytes (Cond.code y_ML_plainBytes b_ML_plainBytes 2 (some .int) :: BIG) rm_ML_plainBytes (PcP [.int p1, .int p2] D (tyG cI cR cZ) ([])) (QcP res) 0 0 no := by
  refine met_P (by decide) (Nat.le_of_ble_eq_true rfl) (fun p e s m args below meth c C hr => ?_)
  have C : Cx p s m args meth c D (tyG cI cR cZ) b_ML_plainBytes 2 "MaskLayers" := C
  have hr : meth.sig.returnType = some .int := hr
  show J p l e rm_ML_plainBytes s m args below meth c D no (fun _ => True) 2 (MQ below (QcP res) args s 0 0 no) 0 0 ([]) [(0, .int p1), (1, .int p2)] [] 0
  unfold ML_plainBytes at h
  refine j_iload_n C 0 d_ML_plainBytes_0 rfl ?_
  refine j_iconst C (v := 1) d_ML_plainBytes_1 (by decide) ?_
  refine j_icmp_ne C 14 d_ML_plainBytes_2 (by decide) (fun c2 => ?_) (fun c2 => ?_)
  · replace h := (if_neg c2).symm.trans h
    refine j_iconst C (v := 3) d_ML_plainBytes_14 (by decide) ?_
    refine j_iload_n C 1 d_ML_plainBytes_15 rfl ?_
    refine j_imul C d_ML_plainBytes_16 ?_
    cases h
    exact j_pret C hr d_ML_plainBytes_17
  · replace h := (if_pos c2).symm.trans h
    refine j_iload_n C 1 d_ML_plainBytes_5 rfl ?_
    refine j_bipush C (v := 8) d_ML_plainBytes_6 (by decide) ?_
    obtain ⟨r1, hr1, h⟩ := bd_ok h
    refine j_PS C [.int p2, .int 8] (c_ML_parts l D cI cR cZ p2 8 hr1) (cw_ML_109 C ⟨Nat.le_of_ble_eq_true rfl, Nat.le_of_ble_eq_true rfl⟩) [] rfl rfl rfl (Nat.le_of_ble_eq_true rfl) d_ML_plainBytes_8 (by decide) ?_
    refine j_goto C 17 d_ML_plainBytes_11 (by decide) ?_
    cases h
    exact j_pret C hr d_ML_plainBytes_17
end
section
def Layers_has (n : Nat) (L : LyS) (p1 : Int32) (p2 : Int32) : Option Int32 :=
  gd p1 24 ((if (((L.2 4 p1.toNatClampNeg) >>> (p2 &&& 31)) &&& 1) = 1 then zb 1 (some 1)
  else zb 0 (some 0)))
set_option maxRecDepth 100000 in
set_option maxHeartbeats 4000000 in
theorem c_Layers_has (l : Launch) (D : va_G) (cI cR cZ : ClassId) (a : (Nat → Nat)) (n : Nat) (L : LyS) (p1 : Int32) (p2 : Int32) {res : Int32} (h : Layers_has n L p1 p2 = some res) : Met l y_Layers_has (Cond.code y_Layers_has b_Layers_has 3 (some .boolean) :: BIG) rm_Layers_has (PcP [.ref (a 0), .int p1, .int p2] D (tyG cI cR cZ) (wLy cI cR a n L)) (QcP res) 0 0 no := by
  refine met_P (by decide) (Nat.le_of_ble_eq_true rfl) (fun p e s m args below meth c C hr => ?_)
  have C : Cx p s m args meth c D (tyG cI cR cZ) b_Layers_has 3 "MaskLayers$Layers" := C
  have hr : meth.sig.returnType = some .boolean := hr
  show J p l e rm_Layers_has s m args below meth c D no (fun _ => True) 3 (MQ below (QcP res) args s 0 0 no) 0 0 (wLy cI cR a n L) [(0, .ref (a 0)), (1, .int p1), (2, .int p2)] [] 0
  unfold Layers_has at h
  refine j_aload_n C 0 d_Layers_has_0 rfl ?_
  refine gf_Layers_16 C 0 (v := .ref (a 6)) rfl rfl d_Layers_has_1 ?_
  refine j_iload_n C 1 d_Layers_has_4 rfl ?_
  obtain ⟨b1, h⟩ := gd_ok h
  refine j_iald C (6) (t0 := 0) rfl rfl b1 d_Layers_has_5 ?_
  refine j_iload_n C 2 d_Layers_has_6 rfl ?_
  refine j_ishr C d_Layers_has_7 ?_
  refine j_iconst C (v := 1) d_Layers_has_8 (by decide) ?_
  refine j_iand C d_Layers_has_9 ?_
  refine j_iconst C (v := 1) d_Layers_has_10 (by decide) ?_
  refine j_icmp_ne C 18 d_Layers_has_11 (by decide) (fun c4 => ?_) (fun c4 => ?_)
  · replace h := (if_neg c4).symm.trans h
    refine j_iconst C (v := 0) d_Layers_has_18 (by decide) ?_
    obtain ⟨b2, h⟩ := zb_ok h
    cases h
    exact j_pretZ C hr d_Layers_has_19 b2
  · replace h := (if_pos c4).symm.trans h
    refine j_iconst C (v := 1) d_Layers_has_14 (by decide) ?_
    refine j_goto C 19 d_Layers_has_15 (by decide) ?_
    obtain ⟨b3, h⟩ := zb_ok h
    cases h
    exact j_pretZ C hr d_Layers_has_19 b3
def Layers_hasSample (n : Nat) (L : LyS) (p1 : Int32) (p2 : Int32) : Option Int32 :=
  (if p1 < 0 then zb 0 (some 0)
  else (if (L.1 0) ≤ p1 then zb 0 (some 0)
  else (if p2 < 0 then zb 0 (some 0)
  else (if (L.1 1) ≤ p2 then zb 0 (some 0)
  else zb 1 (some 1)))))
set_option maxRecDepth 100000 in
set_option maxHeartbeats 4000000 in
theorem c_Layers_hasSample (l : Launch) (D : va_G) (cI cR cZ : ClassId) (a : (Nat → Nat)) (n : Nat) (L : LyS) (p1 : Int32) (p2 : Int32) {res : Int32} (h : Layers_hasSample n L p1 p2 = some res) : Met l y_Layers_hasSample (Cond.code y_Layers_hasSample b_Layers_hasSample 3 (some .boolean) :: BIG) rm_Layers_hasSample (PcP [.ref (a 0), .int p1, .int p2] D (tyG cI cR cZ) (wLy cI cR a n L)) (QcP res) 0 0 no := by
  refine met_P (by decide) (Nat.le_of_ble_eq_true rfl) (fun p e s m args below meth c C hr => ?_)
  have C : Cx p s m args meth c D (tyG cI cR cZ) b_Layers_hasSample 3 "MaskLayers$Layers" := C
  have hr : meth.sig.returnType = some .boolean := hr
  show J p l e rm_Layers_hasSample s m args below meth c D no (fun _ => True) 3 (MQ below (QcP res) args s 0 0 no) 0 0 (wLy cI cR a n L) [(0, .ref (a 0)), (1, .int p1), (2, .int p2)] [] 0
  unfold Layers_hasSample at h
  refine j_iload_n C 1 d_Layers_hasSample_0 rfl ?_
  refine j_if_lt C 28 d_Layers_hasSample_1 (by decide) (fun c9 => ?_) (fun c9 => ?_)
  · replace h := (if_pos c9).symm.trans h
    refine j_iconst C (v := 0) d_Layers_hasSample_28 (by decide) ?_
    obtain ⟨b1, h⟩ := zb_ok h
    cases h
    exact j_pretZ C hr d_Layers_hasSample_29 b1
  · replace h := (if_neg c9).symm.trans h
    refine j_iload_n C 1 d_Layers_hasSample_4 rfl ?_
    refine j_aload_n C 0 d_Layers_hasSample_5 rfl ?_
    refine gf_Layers_39 C 0 (v := .int (L.1 0)) rfl rfl d_Layers_hasSample_6 ?_
    refine j_icmp_ge C 28 d_Layers_hasSample_9 (by decide) (fun c8 => ?_) (fun c8 => ?_)
    · replace h := (if_pos c8).symm.trans h
      refine j_iconst C (v := 0) d_Layers_hasSample_28 (by decide) ?_
      obtain ⟨b2, h⟩ := zb_ok h
      cases h
      exact j_pretZ C hr d_Layers_hasSample_29 b2
    · replace h := (if_neg c8).symm.trans h
      refine j_iload_n C 2 d_Layers_hasSample_12 rfl ?_
      refine j_if_lt C 28 d_Layers_hasSample_13 (by decide) (fun c7 => ?_) (fun c7 => ?_)
      · replace h := (if_pos c7).symm.trans h
        refine j_iconst C (v := 0) d_Layers_hasSample_28 (by decide) ?_
        obtain ⟨b3, h⟩ := zb_ok h
        cases h
        exact j_pretZ C hr d_Layers_hasSample_29 b3
      · replace h := (if_neg c7).symm.trans h
        refine j_iload_n C 2 d_Layers_hasSample_16 rfl ?_
        refine j_aload_n C 0 d_Layers_hasSample_17 rfl ?_
        refine gf_Layers_42 C 0 (v := .int (L.1 1)) rfl rfl d_Layers_hasSample_18 ?_
        refine j_icmp_ge C 28 d_Layers_hasSample_21 (by decide) (fun c6 => ?_) (fun c6 => ?_)
        · replace h := (if_pos c6).symm.trans h
          refine j_iconst C (v := 0) d_Layers_hasSample_28 (by decide) ?_
          obtain ⟨b4, h⟩ := zb_ok h
          cases h
          exact j_pretZ C hr d_Layers_hasSample_29 b4
        · replace h := (if_neg c6).symm.trans h
          refine j_iconst C (v := 1) d_Layers_hasSample_24 (by decide) ?_
          refine j_goto C 29 d_Layers_hasSample_25 (by decide) ?_
          obtain ⟨b5, h⟩ := zb_ok h
          cases h
          exact j_pretZ C hr d_Layers_hasSample_29 b5
def Layers_stripes (n : Nat) (L : LyS) : Option Int32 :=
  (ML_parts (L.1 1) (L.1 2)).bind fun r1 =>
  some r1
set_option maxRecDepth 100000 in
set_option maxHeartbeats 4000000 in
theorem c_Layers_stripes (l : Launch) (D : va_G) (cI cR cZ : ClassId) (a : (Nat → Nat)) (n : Nat) (L : LyS) {res : Int32} (h : Layers_stripes n L = some res) : Met l y_Layers_stripes (Cond.code y_Layers_stripes b_Layers_stripes 1 (some .int) :: BIG) rm_Layers_stripes (PcP [.ref (a 0)] D (tyG cI cR cZ) (wLy cI cR a n L)) (QcP res) 0 0 no := by
  refine met_P (by decide) (Nat.le_of_ble_eq_true rfl) (fun p e s m args below meth c C hr => ?_)
  have C : Cx p s m args meth c D (tyG cI cR cZ) b_Layers_stripes 1 "MaskLayers$Layers" := C
  have hr : meth.sig.returnType = some .int := hr
  show J p l e rm_Layers_stripes s m args below meth c D no (fun _ => True) 1 (MQ below (QcP res) args s 0 0 no) 0 0 (wLy cI cR a n L) [(0, .ref (a 0))] [] 0
  unfold Layers_stripes at h
  refine j_aload_n C 0 d_Layers_stripes_0 rfl ?_
  refine gf_Layers_42 C 0 (v := .int (L.1 1)) rfl rfl d_Layers_stripes_1 ?_
  refine j_aload_n C 0 d_Layers_stripes_4 rfl ?_
  refine gf_Layers_26 C 0 (v := .int (L.1 2)) rfl rfl d_Layers_stripes_5 ?_
  obtain ⟨r1, hr1, h⟩ := bd_ok h
  refine j_PSN C [.int (L.1 1), .int (L.1 2)] (c_ML_parts l D cI cR cZ (L.1 1) (L.1 2) hr1) (cw_Layers_45 C ⟨Nat.le_of_ble_eq_true rfl, Nat.le_of_ble_eq_true rfl⟩) [] rfl rfl rfl (Nat.le_of_ble_eq_true rfl) d_Layers_stripes_8 (by decide) ?_
  cases h
  exact j_pret C hr d_Layers_stripes_11
def Layers_stripeOf (n : Nat) (L : LyS) (p1 : Int32) : Option Int32 :=
  (if 1 ≤ (L.1 2) then dz (L.1 2) (some (p1 / (L.1 2)))
  else some 0)
set_option maxRecDepth 100000 in
set_option maxHeartbeats 4000000 in
theorem c_Layers_stripeOf (l : Launch) (D : va_G) (cI cR cZ : ClassId) (a : (Nat → Nat)) (n : Nat) (L : LyS) (p1 : Int32) {res : Int32} (h : Layers_stripeOf n L p1 = some res) : Met l y_Layers_stripeOf (Cond.code y_Layers_stripeOf b_Layers_stripeOf 2 (some .int) :: BIG) rm_Layers_stripeOf (PcP [.ref (a 0), .int p1] D (tyG cI cR cZ) (wLy cI cR a n L)) (QcP res) 0 0 no := by
  refine met_P (by decide) (Nat.le_of_ble_eq_true rfl) (fun p e s m args below meth c C hr => ?_)
  have C : Cx p s m args meth c D (tyG cI cR cZ) b_Layers_stripeOf 2 "MaskLayers$Layers" := C
  have hr : meth.sig.returnType = some .int := hr
  show J p l e rm_Layers_stripeOf s m args below meth c D no (fun _ => True) 2 (MQ below (QcP res) args s 0 0 no) 0 0 (wLy cI cR a n L) [(0, .ref (a 0)), (1, .int p1)] [] 0
  unfold Layers_stripeOf at h
  refine j_aload_n C 0 d_Layers_stripeOf_0 rfl ?_
  refine gf_Layers_26 C 0 (v := .int (L.1 2)) rfl rfl d_Layers_stripeOf_1 ?_
  refine j_iconst C (v := 1) d_Layers_stripeOf_4 (by decide) ?_
  refine j_icmp_ge C 12 d_Layers_stripeOf_5 (by decide) (fun c2 => ?_) (fun c2 => ?_)
  · replace h := (if_pos c2).symm.trans h
    refine j_iload_n C 1 d_Layers_stripeOf_12 rfl ?_
    refine j_aload_n C 0 d_Layers_stripeOf_13 rfl ?_
    refine gf_Layers_26 C 0 (v := .int (L.1 2)) rfl rfl d_Layers_stripeOf_14 ?_
    obtain ⟨b1, h⟩ := dz_ok h
    refine j_idiv C d_Layers_stripeOf_17 b1 ?_
    cases h
    exact j_pret C hr d_Layers_stripeOf_18
  · replace h := (if_neg c2).symm.trans h
    refine j_iconst C (v := 0) d_Layers_stripeOf_8 (by decide) ?_
    refine j_goto C 18 d_Layers_stripeOf_9 (by decide) ?_
    cases h
    exact j_pret C hr d_Layers_stripeOf_18
def Layers_topOf (n : Nat) (L : LyS) (p1 : Int32) : Option Int32 :=
  some (p1 * (L.1 2))
set_option maxRecDepth 100000 in
set_option maxHeartbeats 4000000 in
theorem c_Layers_topOf (l : Launch) (D : va_G) (cI cR cZ : ClassId) (a : (Nat → Nat)) (n : Nat) (L : LyS) (p1 : Int32) {res : Int32} (h : Layers_topOf n L p1 = some res) : Met l y_Layers_topOf (Cond.code y_Layers_topOf b_Layers_topOf 2 (some .int) :: BIG) rm_Layers_topOf (PcP [.ref (a 0), .int p1] D (tyG cI cR cZ) (wLy cI cR a n L)) (QcP res) 0 0 no := by
  refine met_P (by decide) (Nat.le_of_ble_eq_true rfl) (fun p e s m args below meth c C hr => ?_)
  have C : Cx p s m args meth c D (tyG cI cR cZ) b_Layers_topOf 2 "MaskLayers$Layers" := C
  have hr : meth.sig.returnType = some .int := hr
  show J p l e rm_Layers_topOf s m args below meth c D no (fun _ => True) 2 (MQ below (QcP res) args s 0 0 no) 0 0 (wLy cI cR a n L) [(0, .ref (a 0)), (1, .int p1)] [] 0
  unfold Layers_topOf at h
  refine j_iload_n C 1 d_Layers_topOf_0 rfl ?_
  refine j_aload_n C 0 d_Layers_topOf_1 rfl ?_
  refine gf_Layers_26 C 0 (v := .int (L.1 2)) rfl rfl d_Layers_topOf_2 ?_
  refine j_imul C d_Layers_topOf_5 ?_
  cases h
  exact j_pret C hr d_Layers_topOf_6
def Layers_bottomOf (n : Nat) (L : LyS) (p1 : Int32) : Option Int32 :=
  some (mn ((p1 * (L.1 2)) + (L.1 2)) (L.1 1))
set_option maxRecDepth 100000 in
set_option maxHeartbeats 4000000 in
theorem c_Layers_bottomOf (l : Launch) (D : va_G) (cI cR cZ : ClassId) (a : (Nat → Nat)) (n : Nat) (L : LyS) (p1 : Int32) {res : Int32} (h : Layers_bottomOf n L p1 = some res) : Met l y_Layers_bottomOf (Cond.code y_Layers_bottomOf b_Layers_bottomOf 2 (some .int) :: BIG) rm_Layers_bottomOf (PcP [.ref (a 0), .int p1] D (tyG cI cR cZ) (wLy cI cR a n L)) (QcP res) 0 0 no := by
  refine met_P (by decide) (Nat.le_of_ble_eq_true rfl) (fun p e s m args below meth c C hr => ?_)
  have C : Cx p s m args meth c D (tyG cI cR cZ) b_Layers_bottomOf 2 "MaskLayers$Layers" := C
  have hr : meth.sig.returnType = some .int := hr
  show J p l e rm_Layers_bottomOf s m args below meth c D no (fun _ => True) 2 (MQ below (QcP res) args s 0 0 no) 0 0 (wLy cI cR a n L) [(0, .ref (a 0)), (1, .int p1)] [] 0
  unfold Layers_bottomOf at h
  refine j_iload_n C 1 d_Layers_bottomOf_0 rfl ?_
  refine j_aload_n C 0 d_Layers_bottomOf_1 rfl ?_
  refine gf_Layers_26 C 0 (v := .int (L.1 2)) rfl rfl d_Layers_bottomOf_2 ?_
  refine j_imul C d_Layers_bottomOf_5 ?_
  refine j_aload_n C 0 d_Layers_bottomOf_6 rfl ?_
  refine gf_Layers_26 C 0 (v := .int (L.1 2)) rfl rfl d_Layers_bottomOf_7 ?_
  refine j_iadd C d_Layers_bottomOf_10 ?_
  refine j_aload_n C 0 d_Layers_bottomOf_11 rfl ?_
  refine gf_Layers_42 C 0 (v := .int (L.1 1)) rfl rfl d_Layers_bottomOf_12 ?_
  refine j_mmin C mw_Layers_49 (Nat.le_of_ble_eq_true rfl) (Nat.le_of_ble_eq_true rfl) (by decide) d_Layers_bottomOf_15 ?_
  cases h
  exact j_pret C hr d_Layers_bottomOf_18
def Layers_rowsOf (n : Nat) (L : LyS) (p1 : Int32) (p2 : Int32) : Option Int32 :=
  gd p2 4 ((ML_parts (mn (L.1 2) ((L.1 1) - (p1 * (L.1 2)))) (L.2 5 p2.toNatClampNeg)).bind fun r2 =>
  some r2)
set_option maxRecDepth 100000 in
set_option maxHeartbeats 4000000 in
theorem c_Layers_rowsOf (l : Launch) (D : va_G) (cI cR cZ : ClassId) (a : (Nat → Nat)) (n : Nat) (L : LyS) (p1 : Int32) (p2 : Int32) {res : Int32} (h : Layers_rowsOf n L p1 p2 = some res) : Met l y_Layers_rowsOf (Cond.code y_Layers_rowsOf b_Layers_rowsOf 3 (some .int) :: BIG) rm_Layers_rowsOf (PcP [.ref (a 0), .int p1, .int p2] D (tyG cI cR cZ) (wLy cI cR a n L)) (QcP res) 0 0 no := by
  refine met_P (by decide) (Nat.le_of_ble_eq_true rfl) (fun p e s m args below meth c C hr => ?_)
  have C : Cx p s m args meth c D (tyG cI cR cZ) b_Layers_rowsOf 3 "MaskLayers$Layers" := C
  have hr : meth.sig.returnType = some .int := hr
  show J p l e rm_Layers_rowsOf s m args below meth c D no (fun _ => True) 3 (MQ below (QcP res) args s 0 0 no) 0 0 (wLy cI cR a n L) [(0, .ref (a 0)), (1, .int p1), (2, .int p2)] [] 0
  unfold Layers_rowsOf at h
  refine j_aload_n C 0 d_Layers_rowsOf_0 rfl ?_
  refine gf_Layers_26 C 0 (v := .int (L.1 2)) rfl rfl d_Layers_rowsOf_1 ?_
  refine j_aload_n C 0 d_Layers_rowsOf_4 rfl ?_
  refine gf_Layers_42 C 0 (v := .int (L.1 1)) rfl rfl d_Layers_rowsOf_5 ?_
  refine j_iload_n C 1 d_Layers_rowsOf_8 rfl ?_
  refine j_aload_n C 0 d_Layers_rowsOf_9 rfl ?_
  refine gf_Layers_26 C 0 (v := .int (L.1 2)) rfl rfl d_Layers_rowsOf_10 ?_
  refine j_imul C d_Layers_rowsOf_13 ?_
  refine j_isub C d_Layers_rowsOf_14 ?_
  refine j_mmin C mw_Layers_49 (Nat.le_of_ble_eq_true rfl) (Nat.le_of_ble_eq_true rfl) (by decide) d_Layers_rowsOf_15 ?_
  refine j_aload_n C 0 d_Layers_rowsOf_18 rfl ?_
  refine gf_Layers_20 C 0 (v := .ref (a 7)) rfl rfl d_Layers_rowsOf_19 ?_
  refine j_iload_n C 2 d_Layers_rowsOf_22 rfl ?_
  obtain ⟨b1, h⟩ := gd_ok h
  refine j_iald C (7) (t0 := 0) rfl rfl b1 d_Layers_rowsOf_23 ?_
  obtain ⟨r2, hr2, h⟩ := bd_ok h
  refine j_PSN C [.int (mn (L.1 2) ((L.1 1) - (p1 * (L.1 2)))), .int (L.2 5 p2.toNatClampNeg)] (c_ML_parts l D cI cR cZ (mn (L.1 2) ((L.1 1) - (p1 * (L.1 2)))) (L.2 5 p2.toNatClampNeg) hr2) (cw_Layers_45 C ⟨Nat.le_of_ble_eq_true rfl, Nat.le_of_ble_eq_true rfl⟩) [] rfl rfl rfl (Nat.le_of_ble_eq_true rfl) d_Layers_rowsOf_24 (by decide) ?_
  cases h
  exact j_pret C hr d_Layers_rowsOf_27
def Layers_startOf (n : Nat) (L : LyS) (p1 : Int32) : Option Int32 :=
  some ((p1 * (L.1 2)) * (L.1 0))
set_option maxRecDepth 100000 in
set_option maxHeartbeats 4000000 in
theorem c_Layers_startOf (l : Launch) (D : va_G) (cI cR cZ : ClassId) (a : (Nat → Nat)) (n : Nat) (L : LyS) (p1 : Int32) {res : Int32} (h : Layers_startOf n L p1 = some res) : Met l y_Layers_startOf (Cond.code y_Layers_startOf b_Layers_startOf 2 (some .int) :: BIG) rm_Layers_startOf (PcP [.ref (a 0), .int p1] D (tyG cI cR cZ) (wLy cI cR a n L)) (QcP res) 0 0 no := by
  refine met_P (by decide) (Nat.le_of_ble_eq_true rfl) (fun p e s m args below meth c C hr => ?_)
  have C : Cx p s m args meth c D (tyG cI cR cZ) b_Layers_startOf 2 "MaskLayers$Layers" := C
  have hr : meth.sig.returnType = some .int := hr
  show J p l e rm_Layers_startOf s m args below meth c D no (fun _ => True) 2 (MQ below (QcP res) args s 0 0 no) 0 0 (wLy cI cR a n L) [(0, .ref (a 0)), (1, .int p1)] [] 0
  unfold Layers_startOf at h
  refine j_iload_n C 1 d_Layers_startOf_0 rfl ?_
  refine j_aload_n C 0 d_Layers_startOf_1 rfl ?_
  refine gf_Layers_26 C 0 (v := .int (L.1 2)) rfl rfl d_Layers_startOf_2 ?_
  refine j_imul C d_Layers_startOf_5 ?_
  refine j_aload_n C 0 d_Layers_startOf_6 rfl ?_
  refine gf_Layers_39 C 0 (v := .int (L.1 0)) rfl rfl d_Layers_startOf_7 ?_
  refine j_imul C d_Layers_startOf_10 ?_
  cases h
  exact j_pret C hr d_Layers_startOf_11
def Layers_endOf (n : Nat) (L : LyS) (p1 : Int32) (p2 : Int32) : Option Int32 :=
  (Layers_startOf n L p1).bind fun r1 =>
  gd p2 4 ((Layers_rowsOf n L p1 p2).bind fun r3 =>
  some (r1 + ((L.2 6 p2.toNatClampNeg) * r3)))
set_option maxRecDepth 100000 in
set_option maxHeartbeats 4000000 in
theorem c_Layers_endOf (l : Launch) (D : va_G) (cI cR cZ : ClassId) (a : (Nat → Nat)) (n : Nat) (L : LyS) (p1 : Int32) (p2 : Int32) {res : Int32} (h : Layers_endOf n L p1 p2 = some res) : Met l y_Layers_endOf (Cond.code y_Layers_endOf b_Layers_endOf 3 (some .int) :: BIG) rm_Layers_endOf (PcP [.ref (a 0), .int p1, .int p2] D (tyG cI cR cZ) (wLy cI cR a n L)) (QcP res) 0 0 no := by
  refine met_P (by decide) (Nat.le_of_ble_eq_true rfl) (fun p e s m args below meth c C hr => ?_)
  have C : Cx p s m args meth c D (tyG cI cR cZ) b_Layers_endOf 3 "MaskLayers$Layers" := C
  have hr : meth.sig.returnType = some .int := hr
  show J p l e rm_Layers_endOf s m args below meth c D no (fun _ => True) 3 (MQ below (QcP res) args s 0 0 no) 0 0 (wLy cI cR a n L) [(0, .ref (a 0)), (1, .int p1), (2, .int p2)] [] 0
  unfold Layers_endOf at h
  refine j_aload_n C 0 d_Layers_endOf_0 rfl ?_
  refine j_iload_n C 1 d_Layers_endOf_1 rfl ?_
  obtain ⟨r1, hr1, h⟩ := bd_ok h
  refine j_PV C [.int p1] 0 rfl rfl (c_Layers_startOf l D cI cR cZ a n L p1 hr1) (cw_Layers_54 C ⟨Nat.le_of_ble_eq_true rfl, Nat.le_of_ble_eq_true rfl⟩) [0, 1, 2, 3, 4, 5, 6, 7, 8] rfl rfl rfl (Nat.le_of_ble_eq_true rfl) d_Layers_endOf_2 (by decide) ?_
  refine j_aload_n C 0 d_Layers_endOf_5 rfl ?_
  refine gf_Layers_23 C 0 (v := .ref (a 8)) rfl rfl d_Layers_endOf_6 ?_
  refine j_iload_n C 2 d_Layers_endOf_9 rfl ?_
  obtain ⟨b2, h⟩ := gd_ok h
  refine j_iald C (8) (t0 := 0) rfl rfl b2 d_Layers_endOf_10 ?_
  refine j_aload_n C 0 d_Layers_endOf_11 rfl ?_
  refine j_iload_n C 1 d_Layers_endOf_12 rfl ?_
  refine j_iload_n C 2 d_Layers_endOf_13 rfl ?_
  obtain ⟨r3, hr3, h⟩ := bd_ok h
  refine j_PV C [.int p1, .int p2] 0 rfl rfl (c_Layers_rowsOf l D cI cR cZ a n L p1 p2 hr3) (cw_Layers_58 C ⟨Nat.le_of_ble_eq_true rfl, Nat.le_of_ble_eq_true rfl⟩) [0, 1, 2, 3, 4, 5, 6, 7, 8] rfl rfl rfl (Nat.le_of_ble_eq_true rfl) d_Layers_endOf_14 (by decide) ?_
  refine j_imul C d_Layers_endOf_17 ?_
  refine j_iadd C d_Layers_endOf_18 ?_
  cases h
  exact j_pret C hr d_Layers_endOf_19
def Layers_placeOf (n : Nat) (L : LyS) (p1 : Int32) (p2 : Int32) (p3 : Int32) : Option Int32 :=
  gd p1 4 ((if 1 ≤ (L.2 5 p1.toNatClampNeg) then (Layers_stripeOf n L p3).bind fun r2 =>
  dz (L.2 5 p1.toNatClampNeg) (gd p1 4 (dz (L.2 5 p1.toNatClampNeg) (some ((((r2 * (L.1 2)) * (L.1 0)) + (((p3 - (r2 * (L.1 2))) / (L.2 5 p1.toNatClampNeg)) * (L.2 6 p1.toNatClampNeg))) + (p2 / (L.2 5 p1.toNatClampNeg))))))
  else some 0))
set_option maxRecDepth 100000 in
set_option maxHeartbeats 4000000 in
theorem c_Layers_placeOf (l : Launch) (D : va_G) (cI cR cZ : ClassId) (a : (Nat → Nat)) (n : Nat) (L : LyS) (p1 : Int32) (p2 : Int32) (p3 : Int32) {res : Int32} (h : Layers_placeOf n L p1 p2 p3 = some res) : Met l y_Layers_placeOf (Cond.code y_Layers_placeOf b_Layers_placeOf 6 (some .int) :: BIG) rm_Layers_placeOf (PcP [.ref (a 0), .int p1, .int p2, .int p3] D (tyG cI cR cZ) (wLy cI cR a n L)) (QcP res) 0 0 no := by
  refine met_P (by decide) (Nat.le_of_ble_eq_true rfl) (fun p e s m args below meth c C hr => ?_)
  have C : Cx p s m args meth c D (tyG cI cR cZ) b_Layers_placeOf 6 "MaskLayers$Layers" := C
  have hr : meth.sig.returnType = some .int := hr
  show J p l e rm_Layers_placeOf s m args below meth c D no (fun _ => True) 6 (MQ below (QcP res) args s 0 0 no) 0 0 (wLy cI cR a n L) [(0, .ref (a 0)), (1, .int p1), (2, .int p2), (3, .int p3)] [] 0
  unfold Layers_placeOf at h
  refine j_aload_n C 0 d_Layers_placeOf_0 rfl ?_
  refine gf_Layers_20 C 0 (v := .ref (a 7)) rfl rfl d_Layers_placeOf_1 ?_
  refine j_iload_n C 1 d_Layers_placeOf_4 rfl ?_
  obtain ⟨b1, h⟩ := gd_ok h
  refine j_iald C (7) (t0 := 0) rfl rfl b1 d_Layers_placeOf_5 ?_
  refine j_istore C [(4, .int (L.2 5 p1.toNatClampNeg)), (0, .ref (a 0)), (1, .int p1), (2, .int p2), (3, .int p3)] d_Layers_placeOf_6 (by decide) rfl ?_
  refine j_iload C 0 d_Layers_placeOf_8 rfl ?_
  refine j_iconst C (v := 1) d_Layers_placeOf_10 (by decide) ?_
  refine j_icmp_ge C 16 d_Layers_placeOf_11 (by decide) (fun c6 => ?_) (fun c6 => ?_)
  · replace h := (if_pos c6).symm.trans h
    refine j_aload_n C 1 d_Layers_placeOf_16 rfl ?_
    refine j_iload_n C 4 d_Layers_placeOf_17 rfl ?_
    obtain ⟨r2, hr2, h⟩ := bd_ok h
    refine j_PV C [.int p3] 0 rfl rfl (c_Layers_stripeOf l D cI cR cZ a n L p3 hr2) (cw_Layers_61 C ⟨Nat.le_of_ble_eq_true rfl, Nat.le_of_ble_eq_true rfl⟩) [0, 1, 2, 3, 4, 5, 6, 7, 8] rfl rfl rfl (Nat.le_of_ble_eq_true rfl) d_Layers_placeOf_18 (by decide) ?_
    refine j_aload_n C 1 d_Layers_placeOf_21 rfl ?_
    refine gf_Layers_26 C 0 (v := .int (L.1 2)) rfl rfl d_Layers_placeOf_22 ?_
    refine j_imul C d_Layers_placeOf_25 ?_
    refine j_istore C [(5, .int (r2 * (L.1 2))), (4, .int (L.2 5 p1.toNatClampNeg)), (0, .ref (a 0)), (1, .int p1), (2, .int p2), (3, .int p3)] d_Layers_placeOf_26 (by decide) rfl ?_
    refine j_iload C 0 d_Layers_placeOf_28 rfl ?_
    refine j_aload_n C 2 d_Layers_placeOf_30 rfl ?_
    refine gf_Layers_39 C 0 (v := .int (L.1 0)) rfl rfl d_Layers_placeOf_31 ?_
    refine j_imul C d_Layers_placeOf_34 ?_
    refine j_iload_n C 5 d_Layers_placeOf_35 rfl ?_
    refine j_iload C 0 d_Layers_placeOf_36 rfl ?_
    refine j_isub C d_Layers_placeOf_38 ?_
    refine j_iload C 1 d_Layers_placeOf_39 rfl ?_
    obtain ⟨b3, h⟩ := dz_ok h
    refine j_idiv C d_Layers_placeOf_41 b3 ?_
    refine j_aload_n C 2 d_Layers_placeOf_42 rfl ?_
    refine gf_Layers_23 C 0 (v := .ref (a 8)) rfl rfl d_Layers_placeOf_43 ?_
    refine j_iload_n C 3 d_Layers_placeOf_46 rfl ?_
    obtain ⟨b4, h⟩ := gd_ok h
    refine j_iald C (8) (t0 := 0) rfl rfl b4 d_Layers_placeOf_47 ?_
    refine j_imul C d_Layers_placeOf_48 ?_
    refine j_iadd C d_Layers_placeOf_49 ?_
    refine j_iload_n C 4 d_Layers_placeOf_50 rfl ?_
    refine j_iload C 1 d_Layers_placeOf_51 rfl ?_
    obtain ⟨b5, h⟩ := dz_ok h
    refine j_idiv C d_Layers_placeOf_53 b5 ?_
    refine j_iadd C d_Layers_placeOf_54 ?_
    cases h
    exact j_pret C hr d_Layers_placeOf_55
  · replace h := (if_neg c6).symm.trans h
    refine j_iconst C (v := 0) d_Layers_placeOf_14 (by decide) ?_
    cases h
    exact j_pret C hr d_Layers_placeOf_15
def Layers_valueAt (n : Nat) (L : LyS) (p1 : Int32) (p2 : Int32) (p3 : Int32) : Option Int32 :=
  (Layers_stripeOf n L p3).bind fun r1 =>
  (Layers_has n L r1 p1).bind fun r2 =>
  (if r2 = 0 then some ((-1))
  else gd p1 4 ((Layers_placeOf n L p1 p2 p3).bind fun r4 =>
  gd r4 n (some (L.2 p1.toNatClampNeg r4.toNatClampNeg))))
set_option maxRecDepth 100000 in
set_option maxHeartbeats 4000000 in
theorem c_Layers_valueAt (l : Launch) (D : va_G) (cI cR cZ : ClassId) (a : (Nat → Nat)) (n : Nat) (L : LyS) (p1 : Int32) (p2 : Int32) (p3 : Int32) {res : Int32} (h : Layers_valueAt n L p1 p2 p3 = some res) : Met l y_Layers_valueAt (Cond.code y_Layers_valueAt b_Layers_valueAt 4 (some .int) :: BIG) rm_Layers_valueAt (PcP [.ref (a 0), .int p1, .int p2, .int p3] D (tyG cI cR cZ) (wLy cI cR a n L)) (QcP res) 0 0 no := by
  refine met_P (by decide) (Nat.le_of_ble_eq_true rfl) (fun p e s m args below meth c C hr => ?_)
  have C : Cx p s m args meth c D (tyG cI cR cZ) b_Layers_valueAt 4 "MaskLayers$Layers" := C
  have hr : meth.sig.returnType = some .int := hr
  show J p l e rm_Layers_valueAt s m args below meth c D no (fun _ => True) 4 (MQ below (QcP res) args s 0 0 no) 0 0 (wLy cI cR a n L) [(0, .ref (a 0)), (1, .int p1), (2, .int p2), (3, .int p3)] [] 0
  unfold Layers_valueAt at h
  refine j_aload_n C 0 d_Layers_valueAt_0 rfl ?_
  refine j_aload_n C 0 d_Layers_valueAt_1 rfl ?_
  refine j_iload_n C 3 d_Layers_valueAt_2 rfl ?_
  obtain ⟨r1, hr1, h⟩ := bd_ok h
  refine j_PV C [.int p3] 0 rfl rfl (c_Layers_stripeOf l D cI cR cZ a n L p3 hr1) (cw_Layers_61 C ⟨Nat.le_of_ble_eq_true rfl, Nat.le_of_ble_eq_true rfl⟩) [0, 1, 2, 3, 4, 5, 6, 7, 8] rfl rfl rfl (Nat.le_of_ble_eq_true rfl) d_Layers_valueAt_3 (by decide) ?_
  refine j_iload_n C 1 d_Layers_valueAt_6 rfl ?_
  obtain ⟨r2, hr2, h⟩ := bd_ok h
  refine j_PV C [.int r1, .int p1] 0 rfl rfl (c_Layers_has l D cI cR cZ a n L r1 p1 hr2) (cw_Layers_64 C ⟨Nat.le_of_ble_eq_true rfl, Nat.le_of_ble_eq_true rfl⟩) [0, 1, 2, 3, 4, 5, 6, 7, 8] rfl rfl rfl (Nat.le_of_ble_eq_true rfl) d_Layers_valueAt_7 (by decide) ?_
  refine j_if_eq C 30 d_Layers_valueAt_10 (by decide) (fun c6 => ?_) (fun c6 => ?_)
  · replace h := (if_pos c6).symm.trans h
    refine j_iconst C (v := (-1)) d_Layers_valueAt_30 (by decide) ?_
    cases h
    exact j_pret C hr d_Layers_valueAt_31
  · replace h := (if_neg c6).symm.trans h
    refine j_aload_n C 0 d_Layers_valueAt_13 rfl ?_
    refine gf_Layers_11 C 0 (v := .ref (a 1)) rfl rfl d_Layers_valueAt_14 ?_
    refine j_iload_n C 1 d_Layers_valueAt_17 rfl ?_
    obtain ⟨b3, h⟩ := gd_ok h
    refine j_aald C 1 (t0 := 2) rfl rfl b3 d_Layers_valueAt_18 ?_
    refine j_aload_n C 0 d_Layers_valueAt_19 rfl ?_
    refine j_iload_n C 1 d_Layers_valueAt_20 rfl ?_
    refine j_iload_n C 2 d_Layers_valueAt_21 rfl ?_
    refine j_iload_n C 3 d_Layers_valueAt_22 rfl ?_
    obtain ⟨r4, hr4, h⟩ := bd_ok h
    refine j_PV C [.int p1, .int p2, .int p3] 0 rfl rfl (c_Layers_placeOf l D cI cR cZ a n L p1 p2 p3 hr4) (cw_Layers_68 C ⟨Nat.le_of_ble_eq_true rfl, Nat.le_of_ble_eq_true rfl⟩) [0, 1, 2, 3, 4, 5, 6, 7, 8] rfl rfl rfl (Nat.le_of_ble_eq_true rfl) d_Layers_valueAt_23 (by decide) ?_
    obtain ⟨b5, h⟩ := gd_ok h
    refine j_iald C (2 + p1.toNatClampNeg) (t0 := 0) (co_4 (P := fun k => (wLy cI cR a n L)[2 + k]? = some (a (2 + k), .inl (cI, n, .inl (L.2 k)))) rfl rfl rfl rfl (in_lt b3)) rfl b5 d_Layers_valueAt_26 ?_
    refine j_goto C 31 d_Layers_valueAt_27 (by decide) ?_
    cases h
    exact j_pret C hr d_Layers_valueAt_31
def Layers_joinedAt_b17 (n : Nat) (L : LyS) (v1 : Int32) (v2 : Int32) (s0 : Int32) : Option Int32 :=
  (Layers_valueAt n L s0 v1 v2).bind fun r2 =>
  (if r2 = ((-1)) then some 0
  else some r2)
def Layers_joinedAt (n : Nat) (L : LyS) (p1 : Int32) (p2 : Int32) : Option Int32 :=
  (Layers_valueAt n L 1 p1 p2).bind fun r1 =>
  (if r1 = 1 then Layers_joinedAt_b17 n L p1 p2 2
  else Layers_joinedAt_b17 n L p1 p2 0)
set_option maxRecDepth 100000 in
set_option maxHeartbeats 4000000 in
theorem t_Layers_joinedAt_b17 {p : Program} {l : Launch} {e : Env} {s : State} {m : MethodId} {args : Array Value} {below : List Frame} {meth : Method} {c : Code} {D : va_G} {cI cR cZ : ClassId} (C : Cx p s m args meth c D (tyG cI cR cZ) b_Layers_joinedAt 4 "MaskLayers$Layers") (hr : meth.sig.returnType = some .int) {a : (Nat → Nat)} {n : Nat} {L : LyS} {v1 : Int32} {v2 : Int32} {s0 : Int32} {res : Int32} (h : Layers_joinedAt_b17 n L v1 v2 s0 = some res) : J p l e rm_Layers_joinedAt s m args below meth c D no (fun _ => True) 4 (MQ below (QcP res) args s 0 0 no) 0 0 (wLy cI cR a n L) [(1, .int v1), (2, .int v2)] [.int s0, .ref (a 0)] 17 := by
  unfold Layers_joinedAt_b17 at h
  refine j_iload_n C 0 d_Layers_joinedAt_17 rfl ?_
  refine j_iload_n C 1 d_Layers_joinedAt_18 rfl ?_
  obtain ⟨r2, hr2, h⟩ := bd_ok h
  refine j_PV C [.int s0, .int v1, .int v2] 0 rfl rfl (c_Layers_valueAt l D cI cR cZ a n L s0 v1 v2 hr2) (cw_Layers_72 C ⟨Nat.le_of_ble_eq_true rfl, Nat.le_of_ble_eq_true rfl⟩) [0, 1, 2, 3, 4, 5, 6, 7, 8] rfl rfl rfl (Nat.le_of_ble_eq_true rfl) d_Layers_joinedAt_19 (by decide) ?_
  refine j_istore_n C [(3, .int r2), (1, .int v1), (2, .int v2)] d_Layers_joinedAt_22 (by decide) rfl ?_
  refine j_iload_n C 0 d_Layers_joinedAt_23 rfl ?_
  refine j_iconst C (v := (-1)) d_Layers_joinedAt_24 (by decide) ?_
  refine j_icmp_ne C 32 d_Layers_joinedAt_25 (by decide) (fun c3 => ?_) (fun c3 => ?_)
  · replace h := (if_neg c3).symm.trans h
    refine j_iload_n C 0 d_Layers_joinedAt_32 rfl ?_
    cases h
    exact j_pret C hr d_Layers_joinedAt_33
  · replace h := (if_pos c3).symm.trans h
    refine j_iconst C (v := 0) d_Layers_joinedAt_28 (by decide) ?_
    refine j_goto C 33 d_Layers_joinedAt_29 (by decide) ?_
    cases h
    exact j_pret C hr d_Layers_joinedAt_33
set_option maxRecDepth 100000 in
set_option maxHeartbeats 4000000 in
theorem c_Layers_joinedAt (l : Launch) (D : va_G) (cI cR cZ : ClassId) (a : (Nat → Nat)) (n : Nat) (L : LyS) (p1 : Int32) (p2 : Int32) {res : Int32} (h : Layers_joinedAt n L p1 p2 = some res) : Met l y_Layers_joinedAt (Cond.code y_Layers_joinedAt b_Layers_joinedAt 4 (some .int) :: BIG) rm_Layers_joinedAt (PcP [.ref (a 0), .int p1, .int p2] D (tyG cI cR cZ) (wLy cI cR a n L)) (QcP res) 0 0 no := by
  refine met_P (by decide) (Nat.le_of_ble_eq_true rfl) (fun p e s m args below meth c C hr => ?_)
  have C : Cx p s m args meth c D (tyG cI cR cZ) b_Layers_joinedAt 4 "MaskLayers$Layers" := C
  have hr : meth.sig.returnType = some .int := hr
  show J p l e rm_Layers_joinedAt s m args below meth c D no (fun _ => True) 4 (MQ below (QcP res) args s 0 0 no) 0 0 (wLy cI cR a n L) [(0, .ref (a 0)), (1, .int p1), (2, .int p2)] [] 0
  unfold Layers_joinedAt at h
  refine j_aload_n C 0 d_Layers_joinedAt_0 rfl ?_
  refine j_aload_n C 0 d_Layers_joinedAt_1 rfl ?_
  refine j_iconst C (v := 1) d_Layers_joinedAt_2 (by decide) ?_
  refine j_iload_n C 1 d_Layers_joinedAt_3 rfl ?_
  refine j_iload_n C 2 d_Layers_joinedAt_4 rfl ?_
  obtain ⟨r1, hr1, h⟩ := bd_ok h
  refine j_PV C [.int 1, .int p1, .int p2] 0 rfl rfl (c_Layers_valueAt l D cI cR cZ a n L 1 p1 p2 hr1) (cw_Layers_72 C ⟨Nat.le_of_ble_eq_true rfl, Nat.le_of_ble_eq_true rfl⟩) [0, 1, 2, 3, 4, 5, 6, 7, 8] rfl rfl rfl (Nat.le_of_ble_eq_true rfl) d_Layers_joinedAt_5 (by decide) ?_
  refine j_iconst C (v := 1) d_Layers_joinedAt_8 (by decide) ?_
  refine j_icmp_ne C 16 d_Layers_joinedAt_9 (by decide) (fun c4 => ?_) (fun c4 => ?_)
  · replace h := (if_neg c4).symm.trans h
    refine j_iconst C (v := 0) d_Layers_joinedAt_16 (by decide) ?_
    refine j_sub [1, 2] rfl ?_
    exact t_Layers_joinedAt_b17 C hr h
  · replace h := (if_pos c4).symm.trans h
    refine j_iconst C (v := 2) d_Layers_joinedAt_12 (by decide) ?_
    refine j_goto C 17 d_Layers_joinedAt_13 (by decide) ?_
    refine j_sub [1, 2] rfl ?_
    exact t_Layers_joinedAt_b17 C hr h
def Layers_exactAt (n : Nat) (L : LyS) (p1 : Int32) (p2 : Int32) : Option Int32 :=
  (Layers_valueAt n L 3 p1 p2).bind fun r1 =>
  (if r1 = ((-1)) then (Layers_joinedAt n L p1 p2).bind fun r4 =>
  some r4
  else (Layers_joinedAt n L p1 p2).bind fun r2 =>
  (ML_sum r2 r1).bind fun r3 =>
  some r3)
set_option maxRecDepth 100000 in
set_option maxHeartbeats 4000000 in
theorem c_Layers_exactAt (l : Launch) (D : va_G) (cI cR cZ : ClassId) (a : (Nat → Nat)) (n : Nat) (L : LyS) (p1 : Int32) (p2 : Int32) {res : Int32} (h : Layers_exactAt n L p1 p2 = some res) : Met l y_Layers_exactAt (Cond.code y_Layers_exactAt b_Layers_exactAt 4 (some .int) :: BIG) rm_Layers_exactAt (PcP [.ref (a 0), .int p1, .int p2] D (tyG cI cR cZ) (wLy cI cR a n L)) (QcP res) 0 0 no := by
  refine met_P (by decide) (Nat.le_of_ble_eq_true rfl) (fun p e s m args below meth c C hr => ?_)
  have C : Cx p s m args meth c D (tyG cI cR cZ) b_Layers_exactAt 4 "MaskLayers$Layers" := C
  have hr : meth.sig.returnType = some .int := hr
  show J p l e rm_Layers_exactAt s m args below meth c D no (fun _ => True) 4 (MQ below (QcP res) args s 0 0 no) 0 0 (wLy cI cR a n L) [(0, .ref (a 0)), (1, .int p1), (2, .int p2)] [] 0
  unfold Layers_exactAt at h
  refine j_aload_n C 0 d_Layers_exactAt_0 rfl ?_
  refine j_iconst C (v := 3) d_Layers_exactAt_1 (by decide) ?_
  refine j_iload_n C 1 d_Layers_exactAt_2 rfl ?_
  refine j_iload_n C 2 d_Layers_exactAt_3 rfl ?_
  obtain ⟨r1, hr1, h⟩ := bd_ok h
  refine j_PV C [.int 3, .int p1, .int p2] 0 rfl rfl (c_Layers_valueAt l D cI cR cZ a n L 3 p1 p2 hr1) (cw_Layers_72 C ⟨Nat.le_of_ble_eq_true rfl, Nat.le_of_ble_eq_true rfl⟩) [0, 1, 2, 3, 4, 5, 6, 7, 8] rfl rfl rfl (Nat.le_of_ble_eq_true rfl) d_Layers_exactAt_4 (by decide) ?_
  refine j_istore_n C [(3, .int r1), (0, .ref (a 0)), (1, .int p1), (2, .int p2)] d_Layers_exactAt_7 (by decide) rfl ?_
  refine j_iload_n C 0 d_Layers_exactAt_8 rfl ?_
  refine j_iconst C (v := (-1)) d_Layers_exactAt_9 (by decide) ?_
  refine j_icmp_ne C 22 d_Layers_exactAt_10 (by decide) (fun c5 => ?_) (fun c5 => ?_)
  · replace h := (if_neg c5).symm.trans h
    refine j_aload_n C 1 d_Layers_exactAt_22 rfl ?_
    refine j_iload_n C 2 d_Layers_exactAt_23 rfl ?_
    refine j_iload_n C 3 d_Layers_exactAt_24 rfl ?_
    obtain ⟨r2, hr2, h⟩ := bd_ok h
    refine j_PV C [.int p1, .int p2] 0 rfl rfl (c_Layers_joinedAt l D cI cR cZ a n L p1 p2 hr2) (cw_Layers_75 C ⟨Nat.le_of_ble_eq_true rfl, Nat.le_of_ble_eq_true rfl⟩) [0, 1, 2, 3, 4, 5, 6, 7, 8] rfl rfl rfl (Nat.le_of_ble_eq_true rfl) d_Layers_exactAt_25 (by decide) ?_
    refine j_iload_n C 0 d_Layers_exactAt_28 rfl ?_
    obtain ⟨r3, hr3, h⟩ := bd_ok h
    refine j_PSN C [.int r2, .int r1] (c_ML_sum l D cI cR cZ r2 r1 hr3) (cw_Layers_78 C ⟨Nat.le_of_ble_eq_true rfl, Nat.le_of_ble_eq_true rfl⟩) [] rfl rfl rfl (Nat.le_of_ble_eq_true rfl) d_Layers_exactAt_29 (by decide) ?_
    cases h
    exact j_pret C hr d_Layers_exactAt_32
  · replace h := (if_pos c5).symm.trans h
    refine j_aload_n C 1 d_Layers_exactAt_13 rfl ?_
    refine j_iload_n C 2 d_Layers_exactAt_14 rfl ?_
    refine j_iload_n C 3 d_Layers_exactAt_15 rfl ?_
    obtain ⟨r4, hr4, h⟩ := bd_ok h
    refine j_PV C [.int p1, .int p2] 0 rfl rfl (c_Layers_joinedAt l D cI cR cZ a n L p1 p2 hr4) (cw_Layers_75 C ⟨Nat.le_of_ble_eq_true rfl, Nat.le_of_ble_eq_true rfl⟩) [0, 1, 2, 3, 4, 5, 6, 7, 8] rfl rfl rfl (Nat.le_of_ble_eq_true rfl) d_Layers_exactAt_16 (by decide) ?_
    refine j_goto C 32 d_Layers_exactAt_19 (by decide) ?_
    cases h
    exact j_pret C hr d_Layers_exactAt_32
end
