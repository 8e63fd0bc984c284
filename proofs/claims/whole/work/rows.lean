section
-- ===== PART A: goes FIRST, ahead of the names: the tables' words, and 'selects' of the private methods out of them =====
/-- a private method of a class that the tables say can be made, by its rows of tables_1 -/
def lw_okq (q : MethodName × Nat) : Prop := (q.1.cls ≠ "java/lang/invoke/MethodHandle" ∧ q.1.cls ≠ "java/lang/invoke/VarHandle") ∧ Cond.instantiable q.1.cls q.2 ∈ tables_1 ∧ Cond.privateMethod q.1 ∈ tables_1 ∧ Cond.instanceMethod q.1 ∈ tables_1
theorem lw_p0 : lw_okq (⟨"MaskLayers$Reader", "readHead", "()Z"⟩, 5) := ⟨⟨by decide +kernel, by decide +kernel⟩, List.mem_of_getElem? (i := 131) (by decide +kernel), List.mem_of_getElem? (i := 207) (by decide +kernel), List.mem_of_getElem? (i := 208) (by decide +kernel)⟩
theorem lw_p1 : lw_okq (⟨"MaskLayers$Reader", "take", "(II)I"⟩, 5) := ⟨⟨by decide +kernel, by decide +kernel⟩, List.mem_of_getElem? (i := 131) (by decide +kernel), List.mem_of_getElem? (i := 213) (by decide +kernel), List.mem_of_getElem? (i := 214) (by decide +kernel)⟩
theorem lw_p2 : lw_okq (⟨"MaskLayers$Reader", "readStripe", "(I)Z"⟩, 5) := ⟨⟨by decide +kernel, by decide +kernel⟩, List.mem_of_getElem? (i := 131) (by decide +kernel), List.mem_of_getElem? (i := 228) (by decide +kernel), List.mem_of_getElem? (i := 229) (by decide +kernel)⟩
theorem lw_p3 : lw_okq (⟨"MaskLayers$Reader", "mayEnd", "(I)Z"⟩, 5) := ⟨⟨by decide +kernel, by decide +kernel⟩, List.mem_of_getElem? (i := 131) (by decide +kernel), List.mem_of_getElem? (i := 232) (by decide +kernel), List.mem_of_getElem? (i := 233) (by decide +kernel)⟩
theorem lw_p4 : lw_okq (⟨"MaskLayers$Reader", "refuse", "(I)Z"⟩, 5) := ⟨⟨by decide +kernel, by decide +kernel⟩, List.mem_of_getElem? (i := 131) (by decide +kernel), List.mem_of_getElem? (i := 240) (by decide +kernel), List.mem_of_getElem? (i := 241) (by decide +kernel)⟩
theorem lw_p5 : lw_okq (⟨"MaskLayers$Reader", "mayFollow", "(II)Z"⟩, 5) := ⟨⟨by decide +kernel, by decide +kernel⟩, List.mem_of_getElem? (i := 131) (by decide +kernel), List.mem_of_getElem? (i := 244) (by decide +kernel), List.mem_of_getElem? (i := 245) (by decide +kernel)⟩
theorem lw_p6 : lw_okq (⟨"MaskLayers$Reader", "readLayer", "(II)Z"⟩, 5) := ⟨⟨by decide +kernel, by decide +kernel⟩, List.mem_of_getElem? (i := 131) (by decide +kernel), List.mem_of_getElem? (i := 248) (by decide +kernel), List.mem_of_getElem? (i := 249) (by decide +kernel)⟩
theorem lw_p7 : lw_okq (⟨"MaskLayers$Reader", "readRuns", "(III)Z"⟩, 5) := ⟨⟨by decide +kernel, by decide +kernel⟩, List.mem_of_getElem? (i := 131) (by decide +kernel), List.mem_of_getElem? (i := 270) (by decide +kernel), List.mem_of_getElem? (i := 271) (by decide +kernel)⟩
theorem lw_p8 : lw_okq (⟨"MaskLayers$Reader", "takeValue", "(I)I"⟩, 5) := ⟨⟨by decide +kernel, by decide +kernel⟩, List.mem_of_getElem? (i := 131) (by decide +kernel), List.mem_of_getElem? (i := 275) (by decide +kernel), List.mem_of_getElem? (i := 276) (by decide +kernel)⟩
theorem lw_p9 : lw_okq (⟨"MaskLayers$Reader", "readBits", "(II)Z"⟩, 5) := ⟨⟨by decide +kernel, by decide +kernel⟩, List.mem_of_getElem? (i := 131) (by decide +kernel), List.mem_of_getElem? (i := 282) (by decide +kernel), List.mem_of_getElem? (i := 283) (by decide +kernel)⟩
theorem lw_p10 : lw_okq (⟨"MaskLayers$Reader", "readColours", "(III)Z"⟩, 5) := ⟨⟨by decide +kernel, by decide +kernel⟩, List.mem_of_getElem? (i := 131) (by decide +kernel), List.mem_of_getElem? (i := 286) (by decide +kernel), List.mem_of_getElem? (i := 287) (by decide +kernel)⟩
theorem lw_p11 : lw_okq (⟨"MaskLayers", "maskedSamples", "()I"⟩, 12) := ⟨⟨by decide +kernel, by decide +kernel⟩, List.mem_of_getElem? (i := 19) (by decide +kernel), List.mem_of_getElem? (i := 298) (by decide +kernel), List.mem_of_getElem? (i := 299) (by decide +kernel)⟩
theorem lw_p12 : lw_okq (⟨"MaskLayers", "hasSample", "(II)Z"⟩, 12) := ⟨⟨by decide +kernel, by decide +kernel⟩, List.mem_of_getElem? (i := 19) (by decide +kernel), List.mem_of_getElem? (i := 324) (by decide +kernel), List.mem_of_getElem? (i := 325) (by decide +kernel)⟩
theorem lw_p13 : lw_okq (⟨"java/lang/Throwable", "fillInStackTrace", "(I)Ljava/lang/Throwable;"⟩, 6) := ⟨⟨by decide +kernel, by decide +kernel⟩, List.mem_of_getElem? (i := 367) (by decide +kernel), List.mem_of_getElem? (i := 365) (by decide +kernel), List.mem_of_getElem? (i := 366) (by decide +kernel)⟩
theorem lw_p14 : lw_okq (⟨"MaskLayers", "change", "([IIIII)I"⟩, 12) := ⟨⟨by decide +kernel, by decide +kernel⟩, List.mem_of_getElem? (i := 19) (by decide +kernel), List.mem_of_getElem? (i := 414) (by decide +kernel), List.mem_of_getElem? (i := 415) (by decide +kernel)⟩
theorem lw_p15 : lw_okq (⟨"MaskLayers$Maker", "makeStripe", "(IZ)V"⟩, 4) := ⟨⟨by decide +kernel, by decide +kernel⟩, List.mem_of_getElem? (i := 99) (by decide +kernel), List.mem_of_getElem? (i := 450) (by decide +kernel), List.mem_of_getElem? (i := 451) (by decide +kernel)⟩
def lw_privs_1 : List (MethodName × Nat) := [(⟨"MaskLayers$Reader", "readHead", "()Z"⟩, 5), (⟨"MaskLayers$Reader", "take", "(II)I"⟩, 5), (⟨"MaskLayers$Reader", "readStripe", "(I)Z"⟩, 5), (⟨"MaskLayers$Reader", "mayEnd", "(I)Z"⟩, 5), (⟨"MaskLayers$Reader", "refuse", "(I)Z"⟩, 5), (⟨"MaskLayers$Reader", "mayFollow", "(II)Z"⟩, 5), (⟨"MaskLayers$Reader", "readLayer", "(II)Z"⟩, 5), (⟨"MaskLayers$Reader", "readRuns", "(III)Z"⟩, 5), (⟨"MaskLayers$Reader", "takeValue", "(I)I"⟩, 5), (⟨"MaskLayers$Reader", "readBits", "(II)Z"⟩, 5), (⟨"MaskLayers$Reader", "readColours", "(III)Z"⟩, 5), (⟨"MaskLayers", "maskedSamples", "()I"⟩, 12), (⟨"MaskLayers", "hasSample", "(II)Z"⟩, 12), (⟨"java/lang/Throwable", "fillInStackTrace", "(I)Ljava/lang/Throwable;"⟩, 6), (⟨"MaskLayers", "change", "([IIIII)I"⟩, 12), (⟨"MaskLayers$Maker", "makeStripe", "(IZ)V"⟩, 4)]
theorem lw_r1 : ∀ q ∈ lw_privs_1, lw_okq q := List.forall_mem_cons.mpr ⟨lw_p0, List.forall_mem_cons.mpr ⟨lw_p1, List.forall_mem_cons.mpr ⟨lw_p2, List.forall_mem_cons.mpr ⟨lw_p3, List.forall_mem_cons.mpr ⟨lw_p4, List.forall_mem_cons.mpr ⟨lw_p5, List.forall_mem_cons.mpr ⟨lw_p6, List.forall_mem_cons.mpr ⟨lw_p7, List.forall_mem_cons.mpr ⟨lw_p8, List.forall_mem_cons.mpr ⟨lw_p9, List.forall_mem_cons.mpr ⟨lw_p10, List.forall_mem_cons.mpr ⟨lw_p11, List.forall_mem_cons.mpr ⟨lw_p12, List.forall_mem_cons.mpr ⟨lw_p13, List.forall_mem_cons.mpr ⟨lw_p14, List.forall_mem_cons.mpr ⟨lw_p15, fun _ h => absurd h List.not_mem_nil⟩⟩⟩⟩⟩⟩⟩⟩⟩⟩⟩⟩⟩⟩⟩⟩
theorem lw_p16 : lw_okq (⟨"MaskLayers$Maker", "takeMask", "(I)I"⟩, 4) := ⟨⟨by decide +kernel, by decide +kernel⟩, List.mem_of_getElem? (i := 99) (by decide +kernel), List.mem_of_getElem? (i := 454) (by decide +kernel), List.mem_of_getElem? (i := 455) (by decide +kernel)⟩
theorem lw_p17 : lw_okq (⟨"MaskLayers$Maker", "makeBlocks", "(II)I"⟩, 4) := ⟨⟨by decide +kernel, by decide +kernel⟩, List.mem_of_getElem? (i := 99) (by decide +kernel), List.mem_of_getElem? (i := 460) (by decide +kernel), List.mem_of_getElem? (i := 461) (by decide +kernel)⟩
theorem lw_p18 : lw_okq (⟨"MaskLayers$Maker", "meanOfBlock", "(IIII)I"⟩, 4) := ⟨⟨by decide +kernel, by decide +kernel⟩, List.mem_of_getElem? (i := 99) (by decide +kernel), List.mem_of_getElem? (i := 465) (by decide +kernel), List.mem_of_getElem? (i := 466) (by decide +kernel)⟩
theorem lw_p19 : lw_okq (⟨"MaskLayers$Maker", "fillBlocks", "(III)V"⟩, 4) := ⟨⟨by decide +kernel, by decide +kernel⟩, List.mem_of_getElem? (i := 99) (by decide +kernel), List.mem_of_getElem? (i := 491) (by decide +kernel), List.mem_of_getElem? (i := 492) (by decide +kernel)⟩
theorem lw_p20 : lw_okq (⟨"MaskLayers$Maker", "makeRest", "(I)Z"⟩, 4) := ⟨⟨by decide +kernel, by decide +kernel⟩, List.mem_of_getElem? (i := 99) (by decide +kernel), List.mem_of_getElem? (i := 506) (by decide +kernel), List.mem_of_getElem? (i := 507) (by decide +kernel)⟩
theorem lw_p21 : lw_okq (⟨"MaskLayers$Writer", "writeHead", "()V"⟩, 2) := ⟨⟨by decide +kernel, by decide +kernel⟩, List.mem_of_getElem? (i := 118) (by decide +kernel), List.mem_of_getElem? (i := 594) (by decide +kernel), List.mem_of_getElem? (i := 595) (by decide +kernel)⟩
theorem lw_p22 : lw_okq (⟨"MaskLayers$Writer", "writeLayer", "(II)V"⟩, 2) := ⟨⟨by decide +kernel, by decide +kernel⟩, List.mem_of_getElem? (i := 118) (by decide +kernel), List.mem_of_getElem? (i := 623) (by decide +kernel), List.mem_of_getElem? (i := 624) (by decide +kernel)⟩
theorem lw_p23 : lw_okq (⟨"MaskLayers$Writer", "writeRuns", "(III)V"⟩, 2) := ⟨⟨by decide +kernel, by decide +kernel⟩, List.mem_of_getElem? (i := 118) (by decide +kernel), List.mem_of_getElem? (i := 637) (by decide +kernel), List.mem_of_getElem? (i := 638) (by decide +kernel)⟩
theorem lw_p24 : lw_okq (⟨"MaskLayers$Writer", "writeValue", "(II)V"⟩, 2) := ⟨⟨by decide +kernel, by decide +kernel⟩, List.mem_of_getElem? (i := 118) (by decide +kernel), List.mem_of_getElem? (i := 641) (by decide +kernel), List.mem_of_getElem? (i := 642) (by decide +kernel)⟩
theorem lw_p25 : lw_okq (⟨"MaskLayers$Writer", "writeBits", "(II)V"⟩, 2) := ⟨⟨by decide +kernel, by decide +kernel⟩, List.mem_of_getElem? (i := 118) (by decide +kernel), List.mem_of_getElem? (i := 648) (by decide +kernel), List.mem_of_getElem? (i := 649) (by decide +kernel)⟩
theorem lw_p26 : lw_okq (⟨"MaskLayers$Writer", "writeValues", "(III)V"⟩, 2) := ⟨⟨by decide +kernel, by decide +kernel⟩, List.mem_of_getElem? (i := 118) (by decide +kernel), List.mem_of_getElem? (i := 652) (by decide +kernel), List.mem_of_getElem? (i := 653) (by decide +kernel)⟩
theorem lw_p27 : lw_okq (⟨"MaskLayersModel", "isSample", "(II)Z"⟩, 30) := ⟨⟨by decide +kernel, by decide +kernel⟩, List.mem_of_getElem? (i := 739) (by decide +kernel), List.mem_of_getElem? (i := 845) (by decide +kernel), List.mem_of_getElem? (i := 846) (by decide +kernel)⟩
theorem lw_p28 : lw_okq (⟨"MaskLayersModel", "end", "(II)I"⟩, 30) := ⟨⟨by decide +kernel, by decide +kernel⟩, List.mem_of_getElem? (i := 739) (by decide +kernel), List.mem_of_getElem? (i := 850) (by decide +kernel), List.mem_of_getElem? (i := 851) (by decide +kernel)⟩
theorem lw_p29 : lw_okq (⟨"MaskLayersModel", "makeStripe", "(IZ)V"⟩, 30) := ⟨⟨by decide +kernel, by decide +kernel⟩, List.mem_of_getElem? (i := 739) (by decide +kernel), List.mem_of_getElem? (i := 869) (by decide +kernel), List.mem_of_getElem? (i := 870) (by decide +kernel)⟩
theorem lw_p30 : lw_okq (⟨"MaskLayersModel", "lay", "(IIII)V"⟩, 30) := ⟨⟨by decide +kernel, by decide +kernel⟩, List.mem_of_getElem? (i := 739) (by decide +kernel), List.mem_of_getElem? (i := 873) (by decide +kernel), List.mem_of_getElem? (i := 874) (by decide +kernel)⟩
theorem lw_p31 : lw_okq (⟨"MaskLayersModel", "makeBlocks", "(I)V"⟩, 30) := ⟨⟨by decide +kernel, by decide +kernel⟩, List.mem_of_getElem? (i := 739) (by decide +kernel), List.mem_of_getElem? (i := 877) (by decide +kernel), List.mem_of_getElem? (i := 878) (by decide +kernel)⟩
def lw_privs_2 : List (MethodName × Nat) := [(⟨"MaskLayers$Maker", "takeMask", "(I)I"⟩, 4), (⟨"MaskLayers$Maker", "makeBlocks", "(II)I"⟩, 4), (⟨"MaskLayers$Maker", "meanOfBlock", "(IIII)I"⟩, 4), (⟨"MaskLayers$Maker", "fillBlocks", "(III)V"⟩, 4), (⟨"MaskLayers$Maker", "makeRest", "(I)Z"⟩, 4), (⟨"MaskLayers$Writer", "writeHead", "()V"⟩, 2), (⟨"MaskLayers$Writer", "writeLayer", "(II)V"⟩, 2), (⟨"MaskLayers$Writer", "writeRuns", "(III)V"⟩, 2), (⟨"MaskLayers$Writer", "writeValue", "(II)V"⟩, 2), (⟨"MaskLayers$Writer", "writeBits", "(II)V"⟩, 2), (⟨"MaskLayers$Writer", "writeValues", "(III)V"⟩, 2), (⟨"MaskLayersModel", "isSample", "(II)Z"⟩, 30), (⟨"MaskLayersModel", "end", "(II)I"⟩, 30), (⟨"MaskLayersModel", "makeStripe", "(IZ)V"⟩, 30), (⟨"MaskLayersModel", "lay", "(IIII)V"⟩, 30), (⟨"MaskLayersModel", "makeBlocks", "(I)V"⟩, 30)]
theorem lw_r2 : ∀ q ∈ lw_privs_2, lw_okq q := List.forall_mem_cons.mpr ⟨lw_p16, List.forall_mem_cons.mpr ⟨lw_p17, List.forall_mem_cons.mpr ⟨lw_p18, List.forall_mem_cons.mpr ⟨lw_p19, List.forall_mem_cons.mpr ⟨lw_p20, List.forall_mem_cons.mpr ⟨lw_p21, List.forall_mem_cons.mpr ⟨lw_p22, List.forall_mem_cons.mpr ⟨lw_p23, List.forall_mem_cons.mpr ⟨lw_p24, List.forall_mem_cons.mpr ⟨lw_p25, List.forall_mem_cons.mpr ⟨lw_p26, List.forall_mem_cons.mpr ⟨lw_p27, List.forall_mem_cons.mpr ⟨lw_p28, List.forall_mem_cons.mpr ⟨lw_p29, List.forall_mem_cons.mpr ⟨lw_p30, List.forall_mem_cons.mpr ⟨lw_p31, fun _ h => absurd h List.not_mem_nil⟩⟩⟩⟩⟩⟩⟩⟩⟩⟩⟩⟩⟩⟩⟩⟩
theorem lw_p32 : lw_okq (⟨"MaskLayersModel", "count", "(I)I"⟩, 30) := ⟨⟨by decide +kernel, by decide +kernel⟩, List.mem_of_getElem? (i := 739) (by decide +kernel), List.mem_of_getElem? (i := 881) (by decide +kernel), List.mem_of_getElem? (i := 882) (by decide +kernel)⟩
theorem lw_p33 : lw_okq (⟨"MaskLayersModel", "across", "(I)I"⟩, 30) := ⟨⟨by decide +kernel, by decide +kernel⟩, List.mem_of_getElem? (i := 739) (by decide +kernel), List.mem_of_getElem? (i := 885) (by decide +kernel), List.mem_of_getElem? (i := 886) (by decide +kernel)⟩
theorem lw_p34 : lw_okq (⟨"MaskLayersModel", "scale", "(I)I"⟩, 30) := ⟨⟨by decide +kernel, by decide +kernel⟩, List.mem_of_getElem? (i := 739) (by decide +kernel), List.mem_of_getElem? (i := 889) (by decide +kernel), List.mem_of_getElem? (i := 890) (by decide +kernel)⟩
theorem lw_p35 : lw_okq (⟨"MaskLayersModel", "place", "(II)I"⟩, 30) := ⟨⟨by decide +kernel, by decide +kernel⟩, List.mem_of_getElem? (i := 739) (by decide +kernel), List.mem_of_getElem? (i := 893) (by decide +kernel), List.mem_of_getElem? (i := 894) (by decide +kernel)⟩
theorem lw_p36 : lw_okq (⟨"MaskLayersModel", "mean", "(III)I"⟩, 30) := ⟨⟨by decide +kernel, by decide +kernel⟩, List.mem_of_getElem? (i := 739) (by decide +kernel), List.mem_of_getElem? (i := 897) (by decide +kernel), List.mem_of_getElem? (i := 898) (by decide +kernel)⟩
theorem lw_p37 : lw_okq (⟨"MaskLayersModel", "joinedAt", "(II)I"⟩, 30) := ⟨⟨by decide +kernel, by decide +kernel⟩, List.mem_of_getElem? (i := 739) (by decide +kernel), List.mem_of_getElem? (i := 904) (by decide +kernel), List.mem_of_getElem? (i := 905) (by decide +kernel)⟩
theorem lw_p38 : lw_okq (⟨"MaskLayersModel", "masked0", "(II)Z"⟩, 30) := ⟨⟨by decide +kernel, by decide +kernel⟩, List.mem_of_getElem? (i := 739) (by decide +kernel), List.mem_of_getElem? (i := 908) (by decide +kernel), List.mem_of_getElem? (i := 909) (by decide +kernel)⟩
theorem lw_p39 : lw_okq (⟨"MaskLayersModel", "placeAt", "(III)I"⟩, 30) := ⟨⟨by decide +kernel, by decide +kernel⟩, List.mem_of_getElem? (i := 739) (by decide +kernel), List.mem_of_getElem? (i := 912) (by decide +kernel), List.mem_of_getElem? (i := 913) (by decide +kernel)⟩
theorem lw_p40 : lw_okq (⟨"MaskLayersModel", "refusal", "(II)I"⟩, 30) := ⟨⟨by decide +kernel, by decide +kernel⟩, List.mem_of_getElem? (i := 739) (by decide +kernel), List.mem_of_getElem? (i := 923) (by decide +kernel), List.mem_of_getElem? (i := 924) (by decide +kernel)⟩
theorem lw_p41 : lw_okq (⟨"MaskLayersModel", "layMade", "(I)I"⟩, 30) := ⟨⟨by decide +kernel, by decide +kernel⟩, List.mem_of_getElem? (i := 739) (by decide +kernel), List.mem_of_getElem? (i := 927) (by decide +kernel), List.mem_of_getElem? (i := 928) (by decide +kernel)⟩
theorem lw_p42 : lw_okq (⟨"MaskLayersModel", "out", "(I)V"⟩, 30) := ⟨⟨by decide +kernel, by decide +kernel⟩, List.mem_of_getElem? (i := 739) (by decide +kernel), List.mem_of_getElem? (i := 943) (by decide +kernel), List.mem_of_getElem? (i := 944) (by decide +kernel)⟩
theorem lw_p43 : lw_okq (⟨"MaskLayersModel", "outLayer", "(I)V"⟩, 30) := ⟨⟨by decide +kernel, by decide +kernel⟩, List.mem_of_getElem? (i := 739) (by decide +kernel), List.mem_of_getElem? (i := 947) (by decide +kernel), List.mem_of_getElem? (i := 948) (by decide +kernel)⟩
theorem lw_p44 : lw_okq (⟨"MaskLayersModel", "same", "(II)I"⟩, 30) := ⟨⟨by decide +kernel, by decide +kernel⟩, List.mem_of_getElem? (i := 739) (by decide +kernel), List.mem_of_getElem? (i := 951) (by decide +kernel), List.mem_of_getElem? (i := 952) (by decide +kernel)⟩
theorem lw_p45 : lw_okq (⟨"MaskLayersModel", "plainSize", "(I)I"⟩, 30) := ⟨⟨by decide +kernel, by decide +kernel⟩, List.mem_of_getElem? (i := 739) (by decide +kernel), List.mem_of_getElem? (i := 955) (by decide +kernel), List.mem_of_getElem? (i := 956) (by decide +kernel)⟩
theorem lw_p46 : lw_okq (⟨"MaskLayersModel", "outValue", "(II)V"⟩, 30) := ⟨⟨by decide +kernel, by decide +kernel⟩, List.mem_of_getElem? (i := 739) (by decide +kernel), List.mem_of_getElem? (i := 959) (by decide +kernel), List.mem_of_getElem? (i := 960) (by decide +kernel)⟩
theorem lw_p47 : lw_okq (⟨"MaskLayersModel", "takeIn", "(II)I"⟩, 30) := ⟨⟨by decide +kernel, by decide +kernel⟩, List.mem_of_getElem? (i := 739) (by decide +kernel), List.mem_of_getElem? (i := 983) (by decide +kernel), List.mem_of_getElem? (i := 984) (by decide +kernel)⟩
def lw_privs_3 : List (MethodName × Nat) := [(⟨"MaskLayersModel", "count", "(I)I"⟩, 30), (⟨"MaskLayersModel", "across", "(I)I"⟩, 30), (⟨"MaskLayersModel", "scale", "(I)I"⟩, 30), (⟨"MaskLayersModel", "place", "(II)I"⟩, 30), (⟨"MaskLayersModel", "mean", "(III)I"⟩, 30), (⟨"MaskLayersModel", "joinedAt", "(II)I"⟩, 30), (⟨"MaskLayersModel", "masked0", "(II)Z"⟩, 30), (⟨"MaskLayersModel", "placeAt", "(III)I"⟩, 30), (⟨"MaskLayersModel", "refusal", "(II)I"⟩, 30), (⟨"MaskLayersModel", "layMade", "(I)I"⟩, 30), (⟨"MaskLayersModel", "out", "(I)V"⟩, 30), (⟨"MaskLayersModel", "outLayer", "(I)V"⟩, 30), (⟨"MaskLayersModel", "same", "(II)I"⟩, 30), (⟨"MaskLayersModel", "plainSize", "(I)I"⟩, 30), (⟨"MaskLayersModel", "outValue", "(II)V"⟩, 30), (⟨"MaskLayersModel", "takeIn", "(II)I"⟩, 30)]
theorem lw_r3 : ∀ q ∈ lw_privs_3, lw_okq q := List.forall_mem_cons.mpr ⟨lw_p32, List.forall_mem_cons.mpr ⟨lw_p33, List.forall_mem_cons.mpr ⟨lw_p34, List.forall_mem_cons.mpr ⟨lw_p35, List.forall_mem_cons.mpr ⟨lw_p36, List.forall_mem_cons.mpr ⟨lw_p37, List.forall_mem_cons.mpr ⟨lw_p38, List.forall_mem_cons.mpr ⟨lw_p39, List.forall_mem_cons.mpr ⟨lw_p40, List.forall_mem_cons.mpr ⟨lw_p41, List.forall_mem_cons.mpr ⟨lw_p42, List.forall_mem_cons.mpr ⟨lw_p43, List.forall_mem_cons.mpr ⟨lw_p44, List.forall_mem_cons.mpr ⟨lw_p45, List.forall_mem_cons.mpr ⟨lw_p46, List.forall_mem_cons.mpr ⟨lw_p47, fun _ h => absurd h List.not_mem_nil⟩⟩⟩⟩⟩⟩⟩⟩⟩⟩⟩⟩⟩⟩⟩⟩
theorem lw_p48 : lw_okq (⟨"MaskLayersModel", "take", "()I"⟩, 30) := ⟨⟨by decide +kernel, by decide +kernel⟩, List.mem_of_getElem? (i := 739) (by decide +kernel), List.mem_of_getElem? (i := 987) (by decide +kernel), List.mem_of_getElem? (i := 988) (by decide +kernel)⟩
theorem lw_p49 : lw_okq (⟨"MaskLayersModel", "refuse", "(I)V"⟩, 30) := ⟨⟨by decide +kernel, by decide +kernel⟩, List.mem_of_getElem? (i := 739) (by decide +kernel), List.mem_of_getElem? (i := 991) (by decide +kernel), List.mem_of_getElem? (i := 992) (by decide +kernel)⟩
theorem lw_p50 : lw_okq (⟨"MaskLayersModel", "takeStripe", "()I"⟩, 30) := ⟨⟨by decide +kernel, by decide +kernel⟩, List.mem_of_getElem? (i := 739) (by decide +kernel), List.mem_of_getElem? (i := 995) (by decide +kernel), List.mem_of_getElem? (i := 996) (by decide +kernel)⟩
theorem lw_p51 : lw_okq (⟨"MaskLayersModel", "takeLayer", "(I)V"⟩, 30) := ⟨⟨by decide +kernel, by decide +kernel⟩, List.mem_of_getElem? (i := 739) (by decide +kernel), List.mem_of_getElem? (i := 999) (by decide +kernel), List.mem_of_getElem? (i := 1000) (by decide +kernel)⟩
theorem lw_p52 : lw_okq (⟨"MaskLayersModel", "takePlain", "(I)V"⟩, 30) := ⟨⟨by decide +kernel, by decide +kernel⟩, List.mem_of_getElem? (i := 739) (by decide +kernel), List.mem_of_getElem? (i := 1003) (by decide +kernel), List.mem_of_getElem? (i := 1004) (by decide +kernel)⟩
theorem lw_p53 : lw_okq (⟨"MaskLayersModel", "takeValue", "(I)I"⟩, 30) := ⟨⟨by decide +kernel, by decide +kernel⟩, List.mem_of_getElem? (i := 739) (by decide +kernel), List.mem_of_getElem? (i := 1007) (by decide +kernel), List.mem_of_getElem? (i := 1008) (by decide +kernel)⟩
theorem lw_p54 : lw_okq (⟨"MaskLayersModel", "takeRuns", "(I)V"⟩, 30) := ⟨⟨by decide +kernel, by decide +kernel⟩, List.mem_of_getElem? (i := 739) (by decide +kernel), List.mem_of_getElem? (i := 1011) (by decide +kernel), List.mem_of_getElem? (i := 1012) (by decide +kernel)⟩
theorem lw_p55 : lw_okq (⟨"MaskLayersModel", "joinStripe", "()V"⟩, 30) := ⟨⟨by decide +kernel, by decide +kernel⟩, List.mem_of_getElem? (i := 739) (by decide +kernel), List.mem_of_getElem? (i := 1015) (by decide +kernel), List.mem_of_getElem? (i := 1016) (by decide +kernel)⟩
def lw_privs_4 : List (MethodName × Nat) := [(⟨"MaskLayersModel", "take", "()I"⟩, 30), (⟨"MaskLayersModel", "refuse", "(I)V"⟩, 30), (⟨"MaskLayersModel", "takeStripe", "()I"⟩, 30), (⟨"MaskLayersModel", "takeLayer", "(I)V"⟩, 30), (⟨"MaskLayersModel", "takePlain", "(I)V"⟩, 30), (⟨"MaskLayersModel", "takeValue", "(I)I"⟩, 30), (⟨"MaskLayersModel", "takeRuns", "(I)V"⟩, 30), (⟨"MaskLayersModel", "joinStripe", "()V"⟩, 30)]
theorem lw_r4 : ∀ q ∈ lw_privs_4, lw_okq q := List.forall_mem_cons.mpr ⟨lw_p48, List.forall_mem_cons.mpr ⟨lw_p49, List.forall_mem_cons.mpr ⟨lw_p50, List.forall_mem_cons.mpr ⟨lw_p51, List.forall_mem_cons.mpr ⟨lw_p52, List.forall_mem_cons.mpr ⟨lw_p53, List.forall_mem_cons.mpr ⟨lw_p54, List.forall_mem_cons.mpr ⟨lw_p55, fun _ h => absurd h List.not_mem_nil⟩⟩⟩⟩⟩⟩⟩⟩
def lw_privs : List (MethodName × Nat) := lw_privs_1 ++ (lw_privs_2 ++ (lw_privs_3 ++ (lw_privs_4)))
def lw_tbl : List Cond := k2_sels lw_privs ++ tables_1
theorem lw_privs_ok : ∀ q ∈ lw_privs, lw_okq q := by
  show ∀ q ∈ lw_privs_1 ++ (lw_privs_2 ++ (lw_privs_3 ++ (lw_privs_4))), lw_okq q
  exact List.forall_mem_append.mpr ⟨lw_r1, List.forall_mem_append.mpr ⟨lw_r2, List.forall_mem_append.mpr ⟨lw_r3, lw_r4⟩⟩⟩
end
section
def BIG : List Cond := lw_tbl.filter goodWord
theorem mb {w : Cond} (h : w ∈ lw_tbl) (g : goodWord w = true) : w ∈ BIG := List.mem_filter.mpr ⟨h, g⟩
theorem big_good : ∀ w ∈ BIG, (w.onTables && w.keeps) = true ∨ ∃ ty, w = .arrayClass ty := fun _ h => good_of_word (List.mem_filter.mp h).2
def isNest : Cond → Bool
  | .fieldLinkNest .. => true
  | .methodLinkNest .. => true
  | _ => false
def NWL : List Cond := lw_tbl.filter isNest
def NW (U : State) : Prop := ∀ w ∈ NWL, va_Nw w U
theorem nwm {w : Cond} (h : w ∈ lw_tbl) (g : isNest w = true) : w ∈ NWL := List.mem_filter.mpr ⟨h, g⟩
theorem NW.moved {u U : State} (hW : u.WarmedH U.vm) (h : NW u) : NW U := fun w hw => by
  have hz := h w hw
  have hn := (List.mem_filter.mp hw).2
  cases w <;> first | (simp [isNest] at hn; done) | exact va_Nw.warmF hW hz | exact va_Nw.warmM hW hz
theorem NW.same {u U : State} (hvm : u.vm = U.vm) (h : NW u) : NW U := fun w hw => by
  have hz := h w hw
  have hn := (List.mem_filter.mp hw).2
  cases w <;> first | (simp [isNest] at hn; done) | exact va_Nw.same rfl hvm hz
def cn0 : String := "MaskLayers$ByteRow"
def cf0 : u_T := fun k => match k with
  | 0 => ("MaskLayers$ByteRow", "row", "[I", false)
  | _ => ("MaskLayers$ByteRow", "count", "I", false)
def ct0 : Nat → FieldType := fun k => match k with
  | 0 => .array .int
  | _ => .int
theorem ce0 : ∀ a, a < 2 → ∀ b, b < 2 → a ≠ b → (cf0 a).2.1 ≠ (cf0 b).2.1 := by decide +kernel
theorem cg0 : ∀ k, k < 2 → parseFieldDescriptor (cf0 k).2.2.1 = some (ct0 k) := by decide +kernel
theorem ch0 : ∀ w ∈ u_ws cn0 cf0 2, w ∈ BIG := fun w h => mb ((by decide +kernel : ∀ w ∈ u_ws cn0 cf0 2, w ∈ lw_tbl) w h) ((by decide +kernel : ∀ w ∈ u_ws cn0 cf0 2, goodWord w = true) w h)
def cn1 : String := "MaskLayers$Layers"
def cf1 : u_T := fun k => match k with
  | 0 => ("MaskLayers$Layers", "values", "[[I", true)
  | 1 => ("MaskLayers$Layers", "there", "[I", true)
  | 2 => ("MaskLayers$Layers", "scales", "[I", true)
  | 3 => ("MaskLayers$Layers", "columns", "[I", true)
  | 4 => ("MaskLayers$Layers", "width", "I", false)
  | 5 => ("MaskLayers$Layers", "height", "I", false)
  | 6 => ("MaskLayers$Layers", "step", "I", false)
  | _ => ("MaskLayers$Layers", "count", "I", false)
def ct1 : Nat → FieldType := fun k => match k with
  | 0 => .array (.array .int)
  | 1 => .array .int
  | 2 => .array .int
  | 3 => .array .int
  | 4 => .int
  | 5 => .int
  | 6 => .int
  | _ => .int
theorem ce1 : ∀ a, a < 8 → ∀ b, b < 8 → a ≠ b → (cf1 a).2.1 ≠ (cf1 b).2.1 := by decide +kernel
theorem cg1 : ∀ k, k < 8 → parseFieldDescriptor (cf1 k).2.2.1 = some (ct1 k) := by decide +kernel
theorem ch1 : ∀ w ∈ u_ws cn1 cf1 8, w ∈ BIG := fun w h => mb ((by decide +kernel : ∀ w ∈ u_ws cn1 cf1 8, w ∈ lw_tbl) w h) ((by decide +kernel : ∀ w ∈ u_ws cn1 cf1 8, goodWord w = true) w h)
def cn2 : String := "MaskLayers$Maker"
def cf2 : u_T := fun k => match k with
  | 0 => ("MaskLayers$Maker", "layers", "LMaskLayers$Layers;", true)
  | 1 => ("MaskLayers$Maker", "colours", "[I", true)
  | 2 => ("MaskLayers$Maker", "masked", "[I", true)
  | _ => ("MaskLayers$Maker", "bare", "[I", true)
def ct2 : Nat → FieldType := fun k => match k with
  | 0 => .object "MaskLayers$Layers"
  | 1 => .array .int
  | 2 => .array .int
  | _ => .array .int
theorem ce2 : ∀ a, a < 4 → ∀ b, b < 4 → a ≠ b → (cf2 a).2.1 ≠ (cf2 b).2.1 := by decide +kernel
theorem cg2 : ∀ k, k < 4 → parseFieldDescriptor (cf2 k).2.2.1 = some (ct2 k) := by decide +kernel
theorem ch2 : ∀ w ∈ u_ws cn2 cf2 4, w ∈ BIG := fun w h => mb ((by decide +kernel : ∀ w ∈ u_ws cn2 cf2 4, w ∈ lw_tbl) w h) ((by decide +kernel : ∀ w ∈ u_ws cn2 cf2 4, goodWord w = true) w h)
def cn3 : String := "MaskLayers$Reader"
def cf3 : u_T := fun k => match k with
  | 0 => ("MaskLayers$Reader", "bytes", "LMaskLayers$ByteRow;", true)
  | 1 => ("MaskLayers$Reader", "layers", "LMaskLayers$Layers;", true)
  | 2 => ("MaskLayers$Reader", "head", "[I", true)
  | 3 => ("MaskLayers$Reader", "place", "I", false)
  | _ => ("MaskLayers$Reader", "refusedAt", "I", false)
def ct3 : Nat → FieldType := fun k => match k with
  | 0 => .object "MaskLayers$ByteRow"
  | 1 => .object "MaskLayers$Layers"
  | 2 => .array .int
  | 3 => .int
  | _ => .int
theorem ce3 : ∀ a, a < 5 → ∀ b, b < 5 → a ≠ b → (cf3 a).2.1 ≠ (cf3 b).2.1 := by decide +kernel
theorem cg3 : ∀ k, k < 5 → parseFieldDescriptor (cf3 k).2.2.1 = some (ct3 k) := by decide +kernel
theorem ch3 : ∀ w ∈ u_ws cn3 cf3 5, w ∈ BIG := fun w h => mb ((by decide +kernel : ∀ w ∈ u_ws cn3 cf3 5, w ∈ lw_tbl) w h) ((by decide +kernel : ∀ w ∈ u_ws cn3 cf3 5, goodWord w = true) w h)
def cn4 : String := "MaskLayers$Writer"
def cf4 : u_T := fun k => match k with
  | 0 => ("MaskLayers$Writer", "layers", "LMaskLayers$Layers;", true)
  | _ => ("MaskLayers$Writer", "bytes", "LMaskLayers$ByteRow;", true)
def ct4 : Nat → FieldType := fun k => match k with
  | 0 => .object "MaskLayers$Layers"
  | _ => .object "MaskLayers$ByteRow"
theorem ce4 : ∀ a, a < 2 → ∀ b, b < 2 → a ≠ b → (cf4 a).2.1 ≠ (cf4 b).2.1 := by decide +kernel
theorem cg4 : ∀ k, k < 2 → parseFieldDescriptor (cf4 k).2.2.1 = some (ct4 k) := by decide +kernel
theorem ch4 : ∀ w ∈ u_ws cn4 cf4 2, w ∈ BIG := fun w h => mb ((by decide +kernel : ∀ w ∈ u_ws cn4 cf4 2, w ∈ lw_tbl) w h) ((by decide +kernel : ∀ w ∈ u_ws cn4 cf4 2, goodWord w = true) w h)
def cn5 : String := "MaskLayers"
def cf5 : u_T := fun k => match k with
  | 0 => ("MaskLayers", "width", "I", true)
  | 1 => ("MaskLayers", "height", "I", true)
  | 2 => ("MaskLayers", "colours", "[I", true)
  | 3 => ("MaskLayers", "masked", "[I", true)
  | 4 => ("MaskLayers", "made", "LMaskLayers$Layers;", true)
  | 5 => ("MaskLayers", "found", "LMaskLayers$Layers;", true)
  | 6 => ("MaskLayers", "written", "LMaskLayers$ByteRow;", true)
  | 7 => ("MaskLayers", "fed", "LMaskLayers$ByteRow;", true)
  | 8 => ("MaskLayers", "maker", "LMaskLayers$Maker;", true)
  | 9 => ("MaskLayers", "writer", "LMaskLayers$Writer;", true)
  | 10 => ("MaskLayers", "reader", "LMaskLayers$Reader;", true)
  | _ => ("MaskLayers", "step", "I", false)
def ct5 : Nat → FieldType := fun k => match k with
  | 0 => .int
  | 1 => .int
  | 2 => .array .int
  | 3 => .array .int
  | 4 => .object "MaskLayers$Layers"
  | 5 => .object "MaskLayers$Layers"
  | 6 => .object "MaskLayers$ByteRow"
  | 7 => .object "MaskLayers$ByteRow"
  | 8 => .object "MaskLayers$Maker"
  | 9 => .object "MaskLayers$Writer"
  | 10 => .object "MaskLayers$Reader"
  | _ => .int
theorem ce5 : ∀ a, a < 12 → ∀ b, b < 12 → a ≠ b → (cf5 a).2.1 ≠ (cf5 b).2.1 := by decide +kernel
theorem cg5 : ∀ k, k < 12 → parseFieldDescriptor (cf5 k).2.2.1 = some (ct5 k) := by decide +kernel
theorem ch5 : ∀ w ∈ u_ws cn5 cf5 12, w ∈ BIG := fun w h => mb ((by decide +kernel : ∀ w ∈ u_ws cn5 cf5 12, w ∈ lw_tbl) w h) ((by decide +kernel : ∀ w ∈ u_ws cn5 cf5 12, goodWord w = true) w h)
abbrev vwCl : List vw_C := [(cn0, cf0, 2), (cn1, cf1, 8), (cn2, cf2, 4), (cn3, cf3, 5), (cn4, cf4, 2), (cn5, cf5, 12)]
end
section
abbrev b_ML_isByte : ByteArray := prog_1_method_21_code
def y_ML_isByte : MethodName := ⟨"MaskLayers", "isByte", "(I)Z"⟩
theorem d_ML_isByte_0 : decode b_ML_isByte 0 = .ok (.iload_n 0, 1) := by decide +kernel
theorem d_ML_isByte_1 : decode b_ML_isByte 1 = .ok (.ifCond .lt 14, 3) := by decide +kernel
theorem d_ML_isByte_4 : decode b_ML_isByte 4 = .ok (.iload_n 0, 1) := by decide +kernel
theorem d_ML_isByte_5 : decode b_ML_isByte 5 = .ok (.sipush 255, 3) := by decide +kernel
theorem d_ML_isByte_8 : decode b_ML_isByte 8 = .ok (.if_icmp .gt 7, 3) := by decide +kernel
theorem d_ML_isByte_11 : decode b_ML_isByte 11 = .ok (.iconst 1, 1) := by decide +kernel
theorem d_ML_isByte_12 : decode b_ML_isByte 12 = .ok (.goto 4, 3) := by decide +kernel
theorem d_ML_isByte_15 : decode b_ML_isByte 15 = .ok (.iconst 0, 1) := by decide +kernel
theorem d_ML_isByte_16 : decode b_ML_isByte 16 = .ok (.ireturn, 1) := by decide +kernel
abbrev b_ML_parts : ByteArray := prog_1_method_22_code
def y_ML_parts : MethodName := ⟨"MaskLayers", "parts", "(II)I"⟩
theorem d_ML_parts_0 : decode b_ML_parts 0 = .ok (.iload_n 1, 1) := by decide +kernel
theorem d_ML_parts_1 : decode b_ML_parts 1 = .ok (.iconst 1, 1) := by decide +kernel
theorem d_ML_parts_2 : decode b_ML_parts 2 = .ok (.if_icmp .ge 7, 3) := by decide +kernel
theorem d_ML_parts_5 : decode b_ML_parts 5 = .ok (.iconst 0, 1) := by decide +kernel
theorem d_ML_parts_6 : decode b_ML_parts 6 = .ok (.goto 10, 3) := by decide +kernel
theorem d_ML_parts_9 : decode b_ML_parts 9 = .ok (.iload_n 0, 1) := by decide +kernel
theorem d_ML_parts_10 : decode b_ML_parts 10 = .ok (.iload_n 1, 1) := by decide +kernel
theorem d_ML_parts_11 : decode b_ML_parts 11 = .ok (.iadd, 1) := by decide +kernel
theorem d_ML_parts_12 : decode b_ML_parts 12 = .ok (.iconst 1, 1) := by decide +kernel
theorem d_ML_parts_13 : decode b_ML_parts 13 = .ok (.isub, 1) := by decide +kernel
theorem d_ML_parts_14 : decode b_ML_parts 14 = .ok (.iload_n 1, 1) := by decide +kernel
theorem d_ML_parts_15 : decode b_ML_parts 15 = .ok (.idiv, 1) := by decide +kernel
theorem d_ML_parts_16 : decode b_ML_parts 16 = .ok (.ireturn, 1) := by decide +kernel
abbrev b_ML_red : ByteArray := prog_1_method_23_code
def y_ML_red : MethodName := ⟨"MaskLayers", "red", "(I)I"⟩
theorem d_ML_red_0 : decode b_ML_red 0 = .ok (.iload_n 0, 1) := by decide +kernel
theorem d_ML_red_1 : decode b_ML_red 1 = .ok (.bipush 16, 2) := by decide +kernel
theorem d_ML_red_3 : decode b_ML_red 3 = .ok (.ishr, 1) := by decide +kernel
theorem d_ML_red_4 : decode b_ML_red 4 = .ok (.sipush 255, 3) := by decide +kernel
theorem d_ML_red_7 : decode b_ML_red 7 = .ok (.iand, 1) := by decide +kernel
theorem d_ML_red_8 : decode b_ML_red 8 = .ok (.ireturn, 1) := by decide +kernel
abbrev b_ML_green : ByteArray := prog_1_method_24_code
def y_ML_green : MethodName := ⟨"MaskLayers", "green", "(I)I"⟩
theorem d_ML_green_0 : decode b_ML_green 0 = .ok (.iload_n 0, 1) := by decide +kernel
theorem d_ML_green_1 : decode b_ML_green 1 = .ok (.bipush 8, 2) := by decide +kernel
theorem d_ML_green_3 : decode b_ML_green 3 = .ok (.ishr, 1) := by decide +kernel
theorem d_ML_green_4 : decode b_ML_green 4 = .ok (.sipush 255, 3) := by decide +kernel
theorem d_ML_green_7 : decode b_ML_green 7 = .ok (.iand, 1) := by decide +kernel
theorem d_ML_green_8 : decode b_ML_green 8 = .ok (.ireturn, 1) := by decide +kernel
abbrev b_ML_blue : ByteArray := prog_1_method_25_code
def y_ML_blue : MethodName := ⟨"MaskLayers", "blue", "(I)I"⟩
theorem d_ML_blue_0 : decode b_ML_blue 0 = .ok (.iload_n 0, 1) := by decide +kernel
theorem d_ML_blue_1 : decode b_ML_blue 1 = .ok (.sipush 255, 3) := by decide +kernel
theorem d_ML_blue_4 : decode b_ML_blue 4 = .ok (.iand, 1) := by decide +kernel
theorem d_ML_blue_5 : decode b_ML_blue 5 = .ok (.ireturn, 1) := by decide +kernel
abbrev b_ML_colourOf : ByteArray := prog_1_method_26_code
def y_ML_colourOf : MethodName := ⟨"MaskLayers", "colourOf", "(III)I"⟩
theorem d_ML_colourOf_0 : decode b_ML_colourOf 0 = .ok (.iload_n 0, 1) := by decide +kernel
theorem d_ML_colourOf_1 : decode b_ML_colourOf 1 = .ok (.sipush 255, 3) := by decide +kernel
theorem d_ML_colourOf_4 : decode b_ML_colourOf 4 = .ok (.iand, 1) := by decide +kernel
theorem d_ML_colourOf_5 : decode b_ML_colourOf 5 = .ok (.bipush 16, 2) := by decide +kernel
theorem d_ML_colourOf_7 : decode b_ML_colourOf 7 = .ok (.ishl, 1) := by decide +kernel
theorem d_ML_colourOf_8 : decode b_ML_colourOf 8 = .ok (.iload_n 1, 1) := by decide +kernel
theorem d_ML_colourOf_9 : decode b_ML_colourOf 9 = .ok (.sipush 255, 3) := by decide +kernel
theorem d_ML_colourOf_12 : decode b_ML_colourOf 12 = .ok (.iand, 1) := by decide +kernel
theorem d_ML_colourOf_13 : decode b_ML_colourOf 13 = .ok (.bipush 8, 2) := by decide +kernel
theorem d_ML_colourOf_15 : decode b_ML_colourOf 15 = .ok (.ishl, 1) := by decide +kernel
theorem d_ML_colourOf_16 : decode b_ML_colourOf 16 = .ok (.ior, 1) := by decide +kernel
theorem d_ML_colourOf_17 : decode b_ML_colourOf 17 = .ok (.iload_n 2, 1) := by decide +kernel
theorem d_ML_colourOf_18 : decode b_ML_colourOf 18 = .ok (.sipush 255, 3) := by decide +kernel
theorem d_ML_colourOf_21 : decode b_ML_colourOf 21 = .ok (.iand, 1) := by decide +kernel
theorem d_ML_colourOf_22 : decode b_ML_colourOf 22 = .ok (.ior, 1) := by decide +kernel
theorem d_ML_colourOf_23 : decode b_ML_colourOf 23 = .ok (.ireturn, 1) := by decide +kernel
abbrev b_ML_sum : ByteArray := prog_1_method_27_code
def y_ML_sum : MethodName := ⟨"MaskLayers", "sum", "(II)I"⟩
theorem d_ML_sum_0 : decode b_ML_sum 0 = .ok (.iload_n 0, 1) := by decide +kernel
theorem d_ML_sum_1 : decode b_ML_sum 1 = .ok (.invokestatic 206, 3) := by decide +kernel
theorem d_ML_sum_4 : decode b_ML_sum 4 = .ok (.iload_n 1, 1) := by decide +kernel
theorem d_ML_sum_5 : decode b_ML_sum 5 = .ok (.invokestatic 206, 3) := by decide +kernel
theorem d_ML_sum_8 : decode b_ML_sum 8 = .ok (.iadd, 1) := by decide +kernel
theorem d_ML_sum_9 : decode b_ML_sum 9 = .ok (.iload_n 0, 1) := by decide +kernel
theorem d_ML_sum_10 : decode b_ML_sum 10 = .ok (.invokestatic 209, 3) := by decide +kernel
theorem d_ML_sum_13 : decode b_ML_sum 13 = .ok (.iload_n 1, 1) := by decide +kernel
theorem d_ML_sum_14 : decode b_ML_sum 14 = .ok (.invokestatic 209, 3) := by decide +kernel
theorem d_ML_sum_17 : decode b_ML_sum 17 = .ok (.iadd, 1) := by decide +kernel
theorem d_ML_sum_18 : decode b_ML_sum 18 = .ok (.iload_n 0, 1) := by decide +kernel
theorem d_ML_sum_19 : decode b_ML_sum 19 = .ok (.invokestatic 212, 3) := by decide +kernel
theorem d_ML_sum_22 : decode b_ML_sum 22 = .ok (.iload_n 1, 1) := by decide +kernel
theorem d_ML_sum_23 : decode b_ML_sum 23 = .ok (.invokestatic 212, 3) := by decide +kernel
theorem d_ML_sum_26 : decode b_ML_sum 26 = .ok (.iadd, 1) := by decide +kernel
theorem d_ML_sum_27 : decode b_ML_sum 27 = .ok (.invokestatic 215, 3) := by decide +kernel
theorem d_ML_sum_30 : decode b_ML_sum 30 = .ok (.ireturn, 1) := by decide +kernel
abbrev b_ML_difference : ByteArray := prog_1_method_28_code
def y_ML_difference : MethodName := ⟨"MaskLayers", "difference", "(II)I"⟩
theorem d_ML_difference_0 : decode b_ML_difference 0 = .ok (.iload_n 0, 1) := by decide +kernel
theorem d_ML_difference_1 : decode b_ML_difference 1 = .ok (.invokestatic 206, 3) := by decide +kernel
theorem d_ML_difference_4 : decode b_ML_difference 4 = .ok (.iload_n 1, 1) := by decide +kernel
theorem d_ML_difference_5 : decode b_ML_difference 5 = .ok (.invokestatic 206, 3) := by decide +kernel
theorem d_ML_difference_8 : decode b_ML_difference 8 = .ok (.isub, 1) := by decide +kernel
theorem d_ML_difference_9 : decode b_ML_difference 9 = .ok (.iload_n 0, 1) := by decide +kernel
theorem d_ML_difference_10 : decode b_ML_difference 10 = .ok (.invokestatic 209, 3) := by decide +kernel
theorem d_ML_difference_13 : decode b_ML_difference 13 = .ok (.iload_n 1, 1) := by decide +kernel
theorem d_ML_difference_14 : decode b_ML_difference 14 = .ok (.invokestatic 209, 3) := by decide +kernel
theorem d_ML_difference_17 : decode b_ML_difference 17 = .ok (.isub, 1) := by decide +kernel
theorem d_ML_difference_18 : decode b_ML_difference 18 = .ok (.iload_n 0, 1) := by decide +kernel
theorem d_ML_difference_19 : decode b_ML_difference 19 = .ok (.invokestatic 212, 3) := by decide +kernel
theorem d_ML_difference_22 : decode b_ML_difference 22 = .ok (.iload_n 1, 1) := by decide +kernel
theorem d_ML_difference_23 : decode b_ML_difference 23 = .ok (.invokestatic 212, 3) := by decide +kernel
theorem d_ML_difference_26 : decode b_ML_difference 26 = .ok (.isub, 1) := by decide +kernel
theorem d_ML_difference_27 : decode b_ML_difference 27 = .ok (.invokestatic 215, 3) := by decide +kernel
theorem d_ML_difference_30 : decode b_ML_difference 30 = .ok (.ireturn, 1) := by decide +kernel
abbrev b_ML_middle : ByteArray := prog_1_method_29_code
def y_ML_middle : MethodName := ⟨"MaskLayers", "middle", "(II)I"⟩
theorem d_ML_middle_0 : decode b_ML_middle 0 = .ok (.iload_n 0, 1) := by decide +kernel
theorem d_ML_middle_1 : decode b_ML_middle 1 = .ok (.invokestatic 206, 3) := by decide +kernel
theorem d_ML_middle_4 : decode b_ML_middle 4 = .ok (.iload_n 1, 1) := by decide +kernel
theorem d_ML_middle_5 : decode b_ML_middle 5 = .ok (.invokestatic 206, 3) := by decide +kernel
theorem d_ML_middle_8 : decode b_ML_middle 8 = .ok (.iadd, 1) := by decide +kernel
theorem d_ML_middle_9 : decode b_ML_middle 9 = .ok (.iconst 2, 1) := by decide +kernel
theorem d_ML_middle_10 : decode b_ML_middle 10 = .ok (.idiv, 1) := by decide +kernel
theorem d_ML_middle_11 : decode b_ML_middle 11 = .ok (.iload_n 0, 1) := by decide +kernel
theorem d_ML_middle_12 : decode b_ML_middle 12 = .ok (.invokestatic 209, 3) := by decide +kernel
theorem d_ML_middle_15 : decode b_ML_middle 15 = .ok (.iload_n 1, 1) := by decide +kernel
theorem d_ML_middle_16 : decode b_ML_middle 16 = .ok (.invokestatic 209, 3) := by decide +kernel
theorem d_ML_middle_19 : decode b_ML_middle 19 = .ok (.iadd, 1) := by decide +kernel
theorem d_ML_middle_20 : decode b_ML_middle 20 = .ok (.iconst 2, 1) := by decide +kernel
theorem d_ML_middle_21 : decode b_ML_middle 21 = .ok (.idiv, 1) := by decide +kernel
theorem d_ML_middle_22 : decode b_ML_middle 22 = .ok (.iload_n 0, 1) := by decide +kernel
theorem d_ML_middle_23 : decode b_ML_middle 23 = .ok (.invokestatic 212, 3) := by decide +kernel
theorem d_ML_middle_26 : decode b_ML_middle 26 = .ok (.iload_n 1, 1) := by decide +kernel
theorem d_ML_middle_27 : decode b_ML_middle 27 = .ok (.invokestatic 212, 3) := by decide +kernel
theorem d_ML_middle_30 : decode b_ML_middle 30 = .ok (.iadd, 1) := by decide +kernel
theorem d_ML_middle_31 : decode b_ML_middle 31 = .ok (.iconst 2, 1) := by decide +kernel
theorem d_ML_middle_32 : decode b_ML_middle 32 = .ok (.idiv, 1) := by decide +kernel
theorem d_ML_middle_33 : decode b_ML_middle 33 = .ok (.invokestatic 215, 3) := by decide +kernel
theorem d_ML_middle_36 : decode b_ML_middle 36 = .ok (.ireturn, 1) := by decide +kernel
abbrev b_ML_mean : ByteArray := prog_1_method_30_code
def y_ML_mean : MethodName := ⟨"MaskLayers", "mean", "(II)I"⟩
theorem d_ML_mean_0 : decode b_ML_mean 0 = .ok (.iload_n 1, 1) := by decide +kernel
theorem d_ML_mean_1 : decode b_ML_mean 1 = .ok (.iconst 1, 1) := by decide +kernel
theorem d_ML_mean_2 : decode b_ML_mean 2 = .ok (.if_icmp .ge 7, 3) := by decide +kernel
theorem d_ML_mean_5 : decode b_ML_mean 5 = .ok (.iconst 0, 1) := by decide +kernel
theorem d_ML_mean_6 : decode b_ML_mean 6 = .ok (.goto 12, 3) := by decide +kernel
theorem d_ML_mean_9 : decode b_ML_mean 9 = .ok (.iconst 2, 1) := by decide +kernel
theorem d_ML_mean_10 : decode b_ML_mean 10 = .ok (.iload_n 0, 1) := by decide +kernel
theorem d_ML_mean_11 : decode b_ML_mean 11 = .ok (.imul, 1) := by decide +kernel
theorem d_ML_mean_12 : decode b_ML_mean 12 = .ok (.iload_n 1, 1) := by decide +kernel
theorem d_ML_mean_13 : decode b_ML_mean 13 = .ok (.iadd, 1) := by decide +kernel
theorem d_ML_mean_14 : decode b_ML_mean 14 = .ok (.iconst 2, 1) := by decide +kernel
theorem d_ML_mean_15 : decode b_ML_mean 15 = .ok (.iload_n 1, 1) := by decide +kernel
theorem d_ML_mean_16 : decode b_ML_mean 16 = .ok (.imul, 1) := by decide +kernel
theorem d_ML_mean_17 : decode b_ML_mean 17 = .ok (.idiv, 1) := by decide +kernel
theorem d_ML_mean_18 : decode b_ML_mean 18 = .ok (.ireturn, 1) := by decide +kernel
abbrev b_ML_plainBytes : ByteArray := prog_1_method_31_code
def y_ML_plainBytes : MethodName := ⟨"MaskLayers", "plainBytes", "(II)I"⟩
theorem d_ML_plainBytes_0 : decode b_ML_plainBytes 0 = .ok (.iload_n 0, 1) := by decide +kernel
theorem d_ML_plainBytes_1 : decode b_ML_plainBytes 1 = .ok (.iconst 1, 1) := by decide +kernel
theorem d_ML_plainBytes_2 : decode b_ML_plainBytes 2 = .ok (.if_icmp .ne 12, 3) := by decide +kernel
theorem d_ML_plainBytes_5 : decode b_ML_plainBytes 5 = .ok (.iload_n 1, 1) := by decide +kernel
theorem d_ML_plainBytes_6 : decode b_ML_plainBytes 6 = .ok (.bipush 8, 2) := by decide +kernel
theorem d_ML_plainBytes_8 : decode b_ML_plainBytes 8 = .ok (.invokestatic 109, 3) := by decide +kernel
theorem d_ML_plainBytes_11 : decode b_ML_plainBytes 11 = .ok (.goto 6, 3) := by decide +kernel
theorem d_ML_plainBytes_14 : decode b_ML_plainBytes 14 = .ok (.iconst 3, 1) := by decide +kernel
theorem d_ML_plainBytes_15 : decode b_ML_plainBytes 15 = .ok (.iload_n 1, 1) := by decide +kernel
theorem d_ML_plainBytes_16 : decode b_ML_plainBytes 16 = .ok (.imul, 1) := by decide +kernel
theorem d_ML_plainBytes_17 : decode b_ML_plainBytes 17 = .ok (.ireturn, 1) := by decide +kernel
abbrev b_Layers_has : ByteArray := prog_3_method_5_code
def y_Layers_has : MethodName := ⟨"MaskLayers$Layers", "has", "(II)Z"⟩
theorem d_Layers_has_0 : decode b_Layers_has 0 = .ok (.aload_n 0, 1) := by decide +kernel
theorem d_Layers_has_1 : decode b_Layers_has 1 = .ok (.getfield 16, 3) := by decide +kernel
theorem d_Layers_has_4 : decode b_Layers_has 4 = .ok (.iload_n 1, 1) := by decide +kernel
theorem d_Layers_has_5 : decode b_Layers_has 5 = .ok (.iaload, 1) := by decide +kernel
theorem d_Layers_has_6 : decode b_Layers_has 6 = .ok (.iload_n 2, 1) := by decide +kernel
theorem d_Layers_has_7 : decode b_Layers_has 7 = .ok (.ishr, 1) := by decide +kernel
theorem d_Layers_has_8 : decode b_Layers_has 8 = .ok (.iconst 1, 1) := by decide +kernel
theorem d_Layers_has_9 : decode b_Layers_has 9 = .ok (.iand, 1) := by decide +kernel
theorem d_Layers_has_10 : decode b_Layers_has 10 = .ok (.iconst 1, 1) := by decide +kernel
theorem d_Layers_has_11 : decode b_Layers_has 11 = .ok (.if_icmp .ne 7, 3) := by decide +kernel
theorem d_Layers_has_14 : decode b_Layers_has 14 = .ok (.iconst 1, 1) := by decide +kernel
theorem d_Layers_has_15 : decode b_Layers_has 15 = .ok (.goto 4, 3) := by decide +kernel
theorem d_Layers_has_18 : decode b_Layers_has 18 = .ok (.iconst 0, 1) := by decide +kernel
theorem d_Layers_has_19 : decode b_Layers_has 19 = .ok (.ireturn, 1) := by decide +kernel
abbrev b_Layers_hasSample : ByteArray := prog_3_method_6_code
def y_Layers_hasSample : MethodName := ⟨"MaskLayers$Layers", "hasSample", "(II)Z"⟩
theorem d_Layers_hasSample_0 : decode b_Layers_hasSample 0 = .ok (.iload_n 1, 1) := by decide +kernel
theorem d_Layers_hasSample_1 : decode b_Layers_hasSample 1 = .ok (.ifCond .lt 27, 3) := by decide +kernel
theorem d_Layers_hasSample_4 : decode b_Layers_hasSample 4 = .ok (.iload_n 1, 1) := by decide +kernel
theorem d_Layers_hasSample_5 : decode b_Layers_hasSample 5 = .ok (.aload_n 0, 1) := by decide +kernel
theorem d_Layers_hasSample_6 : decode b_Layers_hasSample 6 = .ok (.getfield 39, 3) := by decide +kernel
theorem d_Layers_hasSample_9 : decode b_Layers_hasSample 9 = .ok (.if_icmp .ge 19, 3) := by decide +kernel
theorem d_Layers_hasSample_12 : decode b_Layers_hasSample 12 = .ok (.iload_n 2, 1) := by decide +kernel
theorem d_Layers_hasSample_13 : decode b_Layers_hasSample 13 = .ok (.ifCond .lt 15, 3) := by decide +kernel
theorem d_Layers_hasSample_16 : decode b_Layers_hasSample 16 = .ok (.iload_n 2, 1) := by decide +kernel
theorem d_Layers_hasSample_17 : decode b_Layers_hasSample 17 = .ok (.aload_n 0, 1) := by decide +kernel
theorem d_Layers_hasSample_18 : decode b_Layers_hasSample 18 = .ok (.getfield 42, 3) := by decide +kernel
theorem d_Layers_hasSample_21 : decode b_Layers_hasSample 21 = .ok (.if_icmp .ge 7, 3) := by decide +kernel
theorem d_Layers_hasSample_24 : decode b_Layers_hasSample 24 = .ok (.iconst 1, 1) := by decide +kernel
theorem d_Layers_hasSample_25 : decode b_Layers_hasSample 25 = .ok (.goto 4, 3) := by decide +kernel
theorem d_Layers_hasSample_28 : decode b_Layers_hasSample 28 = .ok (.iconst 0, 1) := by decide +kernel
theorem d_Layers_hasSample_29 : decode b_Layers_hasSample 29 = .ok (.ireturn, 1) := by decide +kernel
abbrev b_Layers_stripes : ByteArray := prog_3_method_7_code
def y_Layers_stripes : MethodName := ⟨"MaskLayers$Layers", "stripes", "()I"⟩
theorem d_Layers_stripes_0 : decode b_Layers_stripes 0 = .ok (.aload_n 0, 1) := by decide +kernel
theorem d_Layers_stripes_1 : decode b_Layers_stripes 1 = .ok (.getfield 42, 3) := by decide +kernel
theorem d_Layers_stripes_4 : decode b_Layers_stripes 4 = .ok (.aload_n 0, 1) := by decide +kernel
theorem d_Layers_stripes_5 : decode b_Layers_stripes 5 = .ok (.getfield 26, 3) := by decide +kernel
theorem d_Layers_stripes_8 : decode b_Layers_stripes 8 = .ok (.invokestatic 45, 3) := by decide +kernel
theorem d_Layers_stripes_11 : decode b_Layers_stripes 11 = .ok (.ireturn, 1) := by decide +kernel
abbrev b_Layers_stripeOf : ByteArray := prog_3_method_8_code
def y_Layers_stripeOf : MethodName := ⟨"MaskLayers$Layers", "stripeOf", "(I)I"⟩
theorem d_Layers_stripeOf_0 : decode b_Layers_stripeOf 0 = .ok (.aload_n 0, 1) := by decide +kernel
theorem d_Layers_stripeOf_1 : decode b_Layers_stripeOf 1 = .ok (.getfield 26, 3) := by decide +kernel
theorem d_Layers_stripeOf_4 : decode b_Layers_stripeOf 4 = .ok (.iconst 1, 1) := by decide +kernel
theorem d_Layers_stripeOf_5 : decode b_Layers_stripeOf 5 = .ok (.if_icmp .ge 7, 3) := by decide +kernel
theorem d_Layers_stripeOf_8 : decode b_Layers_stripeOf 8 = .ok (.iconst 0, 1) := by decide +kernel
theorem d_Layers_stripeOf_9 : decode b_Layers_stripeOf 9 = .ok (.goto 9, 3) := by decide +kernel
theorem d_Layers_stripeOf_12 : decode b_Layers_stripeOf 12 = .ok (.iload_n 1, 1) := by decide +kernel
theorem d_Layers_stripeOf_13 : decode b_Layers_stripeOf 13 = .ok (.aload_n 0, 1) := by decide +kernel
theorem d_Layers_stripeOf_14 : decode b_Layers_stripeOf 14 = .ok (.getfield 26, 3) := by decide +kernel
theorem d_Layers_stripeOf_17 : decode b_Layers_stripeOf 17 = .ok (.idiv, 1) := by decide +kernel
theorem d_Layers_stripeOf_18 : decode b_Layers_stripeOf 18 = .ok (.ireturn, 1) := by decide +kernel
abbrev b_Layers_topOf : ByteArray := prog_3_method_9_code
def y_Layers_topOf : MethodName := ⟨"MaskLayers$Layers", "topOf", "(I)I"⟩
theorem d_Layers_topOf_0 : decode b_Layers_topOf 0 = .ok (.iload_n 1, 1) := by decide +kernel
theorem d_Layers_topOf_1 : decode b_Layers_topOf 1 = .ok (.aload_n 0, 1) := by decide +kernel
theorem d_Layers_topOf_2 : decode b_Layers_topOf 2 = .ok (.getfield 26, 3) := by decide +kernel
theorem d_Layers_topOf_5 : decode b_Layers_topOf 5 = .ok (.imul, 1) := by decide +kernel
theorem d_Layers_topOf_6 : decode b_Layers_topOf 6 = .ok (.ireturn, 1) := by decide +kernel
abbrev b_Layers_bottomOf : ByteArray := prog_3_method_10_code
def y_Layers_bottomOf : MethodName := ⟨"MaskLayers$Layers", "bottomOf", "(I)I"⟩
theorem d_Layers_bottomOf_0 : decode b_Layers_bottomOf 0 = .ok (.iload_n 1, 1) := by decide +kernel
theorem d_Layers_bottomOf_1 : decode b_Layers_bottomOf 1 = .ok (.aload_n 0, 1) := by decide +kernel
theorem d_Layers_bottomOf_2 : decode b_Layers_bottomOf 2 = .ok (.getfield 26, 3) := by decide +kernel
theorem d_Layers_bottomOf_5 : decode b_Layers_bottomOf 5 = .ok (.imul, 1) := by decide +kernel
theorem d_Layers_bottomOf_6 : decode b_Layers_bottomOf 6 = .ok (.aload_n 0, 1) := by decide +kernel
theorem d_Layers_bottomOf_7 : decode b_Layers_bottomOf 7 = .ok (.getfield 26, 3) := by decide +kernel
theorem d_Layers_bottomOf_10 : decode b_Layers_bottomOf 10 = .ok (.iadd, 1) := by decide +kernel
theorem d_Layers_bottomOf_11 : decode b_Layers_bottomOf 11 = .ok (.aload_n 0, 1) := by decide +kernel
theorem d_Layers_bottomOf_12 : decode b_Layers_bottomOf 12 = .ok (.getfield 42, 3) := by decide +kernel
theorem d_Layers_bottomOf_15 : decode b_Layers_bottomOf 15 = .ok (.invokestatic 49, 3) := by decide +kernel
theorem d_Layers_bottomOf_18 : decode b_Layers_bottomOf 18 = .ok (.ireturn, 1) := by decide +kernel
abbrev b_Layers_rowsOf : ByteArray := prog_3_method_11_code
def y_Layers_rowsOf : MethodName := ⟨"MaskLayers$Layers", "rowsOf", "(II)I"⟩
theorem d_Layers_rowsOf_0 : decode b_Layers_rowsOf 0 = .ok (.aload_n 0, 1) := by decide +kernel
theorem d_Layers_rowsOf_1 : decode b_Layers_rowsOf 1 = .ok (.getfield 26, 3) := by decide +kernel
theorem d_Layers_rowsOf_4 : decode b_Layers_rowsOf 4 = .ok (.aload_n 0, 1) := by decide +kernel
theorem d_Layers_rowsOf_5 : decode b_Layers_rowsOf 5 = .ok (.getfield 42, 3) := by decide +kernel
theorem d_Layers_rowsOf_8 : decode b_Layers_rowsOf 8 = .ok (.iload_n 1, 1) := by decide +kernel
theorem d_Layers_rowsOf_9 : decode b_Layers_rowsOf 9 = .ok (.aload_n 0, 1) := by decide +kernel
theorem d_Layers_rowsOf_10 : decode b_Layers_rowsOf 10 = .ok (.getfield 26, 3) := by decide +kernel
theorem d_Layers_rowsOf_13 : decode b_Layers_rowsOf 13 = .ok (.imul, 1) := by decide +kernel
theorem d_Layers_rowsOf_14 : decode b_Layers_rowsOf 14 = .ok (.isub, 1) := by decide +kernel
theorem d_Layers_rowsOf_15 : decode b_Layers_rowsOf 15 = .ok (.invokestatic 49, 3) := by decide +kernel
theorem d_Layers_rowsOf_18 : decode b_Layers_rowsOf 18 = .ok (.aload_n 0, 1) := by decide +kernel
theorem d_Layers_rowsOf_19 : decode b_Layers_rowsOf 19 = .ok (.getfield 20, 3) := by decide +kernel
theorem d_Layers_rowsOf_22 : decode b_Layers_rowsOf 22 = .ok (.iload_n 2, 1) := by decide +kernel
theorem d_Layers_rowsOf_23 : decode b_Layers_rowsOf 23 = .ok (.iaload, 1) := by decide +kernel
theorem d_Layers_rowsOf_24 : decode b_Layers_rowsOf 24 = .ok (.invokestatic 45, 3) := by decide +kernel
theorem d_Layers_rowsOf_27 : decode b_Layers_rowsOf 27 = .ok (.ireturn, 1) := by decide +kernel
abbrev b_Layers_startOf : ByteArray := prog_3_method_12_code
def y_Layers_startOf : MethodName := ⟨"MaskLayers$Layers", "startOf", "(I)I"⟩
theorem d_Layers_startOf_0 : decode b_Layers_startOf 0 = .ok (.iload_n 1, 1) := by decide +kernel
theorem d_Layers_startOf_1 : decode b_Layers_startOf 1 = .ok (.aload_n 0, 1) := by decide +kernel
theorem d_Layers_startOf_2 : decode b_Layers_startOf 2 = .ok (.getfield 26, 3) := by decide +kernel
theorem d_Layers_startOf_5 : decode b_Layers_startOf 5 = .ok (.imul, 1) := by decide +kernel
theorem d_Layers_startOf_6 : decode b_Layers_startOf 6 = .ok (.aload_n 0, 1) := by decide +kernel
theorem d_Layers_startOf_7 : decode b_Layers_startOf 7 = .ok (.getfield 39, 3) := by decide +kernel
theorem d_Layers_startOf_10 : decode b_Layers_startOf 10 = .ok (.imul, 1) := by decide +kernel
theorem d_Layers_startOf_11 : decode b_Layers_startOf 11 = .ok (.ireturn, 1) := by decide +kernel
abbrev b_Layers_endOf : ByteArray := prog_3_method_13_code
def y_Layers_endOf : MethodName := ⟨"MaskLayers$Layers", "endOf", "(II)I"⟩
theorem d_Layers_endOf_0 : decode b_Layers_endOf 0 = .ok (.aload_n 0, 1) := by decide +kernel
theorem d_Layers_endOf_1 : decode b_Layers_endOf 1 = .ok (.iload_n 1, 1) := by decide +kernel
theorem d_Layers_endOf_2 : decode b_Layers_endOf 2 = .ok (.invokevirtual 54, 3) := by decide +kernel
theorem d_Layers_endOf_5 : decode b_Layers_endOf 5 = .ok (.aload_n 0, 1) := by decide +kernel
theorem d_Layers_endOf_6 : decode b_Layers_endOf 6 = .ok (.getfield 23, 3) := by decide +kernel
theorem d_Layers_endOf_9 : decode b_Layers_endOf 9 = .ok (.iload_n 2, 1) := by decide +kernel
theorem d_Layers_endOf_10 : decode b_Layers_endOf 10 = .ok (.iaload, 1) := by decide +kernel
theorem d_Layers_endOf_11 : decode b_Layers_endOf 11 = .ok (.aload_n 0, 1) := by decide +kernel
theorem d_Layers_endOf_12 : decode b_Layers_endOf 12 = .ok (.iload_n 1, 1) := by decide +kernel
theorem d_Layers_endOf_13 : decode b_Layers_endOf 13 = .ok (.iload_n 2, 1) := by decide +kernel
theorem d_Layers_endOf_14 : decode b_Layers_endOf 14 = .ok (.invokevirtual 58, 3) := by decide +kernel
theorem d_Layers_endOf_17 : decode b_Layers_endOf 17 = .ok (.imul, 1) := by decide +kernel
theorem d_Layers_endOf_18 : decode b_Layers_endOf 18 = .ok (.iadd, 1) := by decide +kernel
theorem d_Layers_endOf_19 : decode b_Layers_endOf 19 = .ok (.ireturn, 1) := by decide +kernel
abbrev b_Layers_placeOf : ByteArray := prog_3_method_14_code
def y_Layers_placeOf : MethodName := ⟨"MaskLayers$Layers", "placeOf", "(III)I"⟩
theorem d_Layers_placeOf_0 : decode b_Layers_placeOf 0 = .ok (.aload_n 0, 1) := by decide +kernel
theorem d_Layers_placeOf_1 : decode b_Layers_placeOf 1 = .ok (.getfield 20, 3) := by decide +kernel
theorem d_Layers_placeOf_4 : decode b_Layers_placeOf 4 = .ok (.iload_n 1, 1) := by decide +kernel
theorem d_Layers_placeOf_5 : decode b_Layers_placeOf 5 = .ok (.iaload, 1) := by decide +kernel
theorem d_Layers_placeOf_6 : decode b_Layers_placeOf 6 = .ok (.istore 4, 2) := by decide +kernel
theorem d_Layers_placeOf_8 : decode b_Layers_placeOf 8 = .ok (.iload 4, 2) := by decide +kernel
theorem d_Layers_placeOf_10 : decode b_Layers_placeOf 10 = .ok (.iconst 1, 1) := by decide +kernel
theorem d_Layers_placeOf_11 : decode b_Layers_placeOf 11 = .ok (.if_icmp .ge 5, 3) := by decide +kernel
theorem d_Layers_placeOf_14 : decode b_Layers_placeOf 14 = .ok (.iconst 0, 1) := by decide +kernel
theorem d_Layers_placeOf_15 : decode b_Layers_placeOf 15 = .ok (.ireturn, 1) := by decide +kernel
theorem d_Layers_placeOf_16 : decode b_Layers_placeOf 16 = .ok (.aload_n 0, 1) := by decide +kernel
theorem d_Layers_placeOf_17 : decode b_Layers_placeOf 17 = .ok (.iload_n 3, 1) := by decide +kernel
theorem d_Layers_placeOf_18 : decode b_Layers_placeOf 18 = .ok (.invokevirtual 61, 3) := by decide +kernel
theorem d_Layers_placeOf_21 : decode b_Layers_placeOf 21 = .ok (.aload_n 0, 1) := by decide +kernel
theorem d_Layers_placeOf_22 : decode b_Layers_placeOf 22 = .ok (.getfield 26, 3) := by decide +kernel
theorem d_Layers_placeOf_25 : decode b_Layers_placeOf 25 = .ok (.imul, 1) := by decide +kernel
theorem d_Layers_placeOf_26 : decode b_Layers_placeOf 26 = .ok (.istore 5, 2) := by decide +kernel
theorem d_Layers_placeOf_28 : decode b_Layers_placeOf 28 = .ok (.iload 5, 2) := by decide +kernel
theorem d_Layers_placeOf_30 : decode b_Layers_placeOf 30 = .ok (.aload_n 0, 1) := by decide +kernel
theorem d_Layers_placeOf_31 : decode b_Layers_placeOf 31 = .ok (.getfield 39, 3) := by decide +kernel
theorem d_Layers_placeOf_34 : decode b_Layers_placeOf 34 = .ok (.imul, 1) := by decide +kernel
theorem d_Layers_placeOf_35 : decode b_Layers_placeOf 35 = .ok (.iload_n 3, 1) := by decide +kernel
theorem d_Layers_placeOf_36 : decode b_Layers_placeOf 36 = .ok (.iload 5, 2) := by decide +kernel
theorem d_Layers_placeOf_38 : decode b_Layers_placeOf 38 = .ok (.isub, 1) := by decide +kernel
theorem d_Layers_placeOf_39 : decode b_Layers_placeOf 39 = .ok (.iload 4, 2) := by decide +kernel
theorem d_Layers_placeOf_41 : decode b_Layers_placeOf 41 = .ok (.idiv, 1) := by decide +kernel
theorem d_Layers_placeOf_42 : decode b_Layers_placeOf 42 = .ok (.aload_n 0, 1) := by decide +kernel
theorem d_Layers_placeOf_43 : decode b_Layers_placeOf 43 = .ok (.getfield 23, 3) := by decide +kernel
theorem d_Layers_placeOf_46 : decode b_Layers_placeOf 46 = .ok (.iload_n 1, 1) := by decide +kernel
theorem d_Layers_placeOf_47 : decode b_Layers_placeOf 47 = .ok (.iaload, 1) := by decide +kernel
theorem d_Layers_placeOf_48 : decode b_Layers_placeOf 48 = .ok (.imul, 1) := by decide +kernel
theorem d_Layers_placeOf_49 : decode b_Layers_placeOf 49 = .ok (.iadd, 1) := by decide +kernel
theorem d_Layers_placeOf_50 : decode b_Layers_placeOf 50 = .ok (.iload_n 2, 1) := by decide +kernel
theorem d_Layers_placeOf_51 : decode b_Layers_placeOf 51 = .ok (.iload 4, 2) := by decide +kernel
theorem d_Layers_placeOf_53 : decode b_Layers_placeOf 53 = .ok (.idiv, 1) := by decide +kernel
theorem d_Layers_placeOf_54 : decode b_Layers_placeOf 54 = .ok (.iadd, 1) := by decide +kernel
theorem d_Layers_placeOf_55 : decode b_Layers_placeOf 55 = .ok (.ireturn, 1) := by decide +kernel
abbrev b_Layers_valueAt : ByteArray := prog_3_method_15_code
def y_Layers_valueAt : MethodName := ⟨"MaskLayers$Layers", "valueAt", "(III)I"⟩
theorem d_Layers_valueAt_0 : decode b_Layers_valueAt 0 = .ok (.aload_n 0, 1) := by decide +kernel
theorem d_Layers_valueAt_1 : decode b_Layers_valueAt 1 = .ok (.aload_n 0, 1) := by decide +kernel
theorem d_Layers_valueAt_2 : decode b_Layers_valueAt 2 = .ok (.iload_n 3, 1) := by decide +kernel
theorem d_Layers_valueAt_3 : decode b_Layers_valueAt 3 = .ok (.invokevirtual 61, 3) := by decide +kernel
theorem d_Layers_valueAt_6 : decode b_Layers_valueAt 6 = .ok (.iload_n 1, 1) := by decide +kernel
theorem d_Layers_valueAt_7 : decode b_Layers_valueAt 7 = .ok (.invokevirtual 64, 3) := by decide +kernel
theorem d_Layers_valueAt_10 : decode b_Layers_valueAt 10 = .ok (.ifCond .eq 20, 3) := by decide +kernel
theorem d_Layers_valueAt_13 : decode b_Layers_valueAt 13 = .ok (.aload_n 0, 1) := by decide +kernel
theorem d_Layers_valueAt_14 : decode b_Layers_valueAt 14 = .ok (.getfield 11, 3) := by decide +kernel
theorem d_Layers_valueAt_17 : decode b_Layers_valueAt 17 = .ok (.iload_n 1, 1) := by decide +kernel
theorem d_Layers_valueAt_18 : decode b_Layers_valueAt 18 = .ok (.aaload, 1) := by decide +kernel
theorem d_Layers_valueAt_19 : decode b_Layers_valueAt 19 = .ok (.aload_n 0, 1) := by decide +kernel
theorem d_Layers_valueAt_20 : decode b_Layers_valueAt 20 = .ok (.iload_n 1, 1) := by decide +kernel
theorem d_Layers_valueAt_21 : decode b_Layers_valueAt 21 = .ok (.iload_n 2, 1) := by decide +kernel
theorem d_Layers_valueAt_22 : decode b_Layers_valueAt 22 = .ok (.iload_n 3, 1) := by decide +kernel
theorem d_Layers_valueAt_23 : decode b_Layers_valueAt 23 = .ok (.invokevirtual 68, 3) := by decide +kernel
theorem d_Layers_valueAt_26 : decode b_Layers_valueAt 26 = .ok (.iaload, 1) := by decide +kernel
theorem d_Layers_valueAt_27 : decode b_Layers_valueAt 27 = .ok (.goto 4, 3) := by decide +kernel
theorem d_Layers_valueAt_30 : decode b_Layers_valueAt 30 = .ok (.iconst (-1), 1) := by decide +kernel
theorem d_Layers_valueAt_31 : decode b_Layers_valueAt 31 = .ok (.ireturn, 1) := by decide +kernel
abbrev b_Layers_joinedAt : ByteArray := prog_3_method_16_code
def y_Layers_joinedAt : MethodName := ⟨"MaskLayers$Layers", "joinedAt", "(II)I"⟩
theorem d_Layers_joinedAt_0 : decode b_Layers_joinedAt 0 = .ok (.aload_n 0, 1) := by decide +kernel
theorem d_Layers_joinedAt_1 : decode b_Layers_joinedAt 1 = .ok (.aload_n 0, 1) := by decide +kernel
theorem d_Layers_joinedAt_2 : decode b_Layers_joinedAt 2 = .ok (.iconst 1, 1) := by decide +kernel
theorem d_Layers_joinedAt_3 : decode b_Layers_joinedAt 3 = .ok (.iload_n 1, 1) := by decide +kernel
theorem d_Layers_joinedAt_4 : decode b_Layers_joinedAt 4 = .ok (.iload_n 2, 1) := by decide +kernel
theorem d_Layers_joinedAt_5 : decode b_Layers_joinedAt 5 = .ok (.invokevirtual 72, 3) := by decide +kernel
theorem d_Layers_joinedAt_8 : decode b_Layers_joinedAt 8 = .ok (.iconst 1, 1) := by decide +kernel
theorem d_Layers_joinedAt_9 : decode b_Layers_joinedAt 9 = .ok (.if_icmp .ne 7, 3) := by decide +kernel
theorem d_Layers_joinedAt_12 : decode b_Layers_joinedAt 12 = .ok (.iconst 2, 1) := by decide +kernel
theorem d_Layers_joinedAt_13 : decode b_Layers_joinedAt 13 = .ok (.goto 4, 3) := by decide +kernel
theorem d_Layers_joinedAt_16 : decode b_Layers_joinedAt 16 = .ok (.iconst 0, 1) := by decide +kernel
theorem d_Layers_joinedAt_17 : decode b_Layers_joinedAt 17 = .ok (.iload_n 1, 1) := by decide +kernel
theorem d_Layers_joinedAt_18 : decode b_Layers_joinedAt 18 = .ok (.iload_n 2, 1) := by decide +kernel
theorem d_Layers_joinedAt_19 : decode b_Layers_joinedAt 19 = .ok (.invokevirtual 72, 3) := by decide +kernel
theorem d_Layers_joinedAt_22 : decode b_Layers_joinedAt 22 = .ok (.istore_n 3, 1) := by decide +kernel
theorem d_Layers_joinedAt_23 : decode b_Layers_joinedAt 23 = .ok (.iload_n 3, 1) := by decide +kernel
theorem d_Layers_joinedAt_24 : decode b_Layers_joinedAt 24 = .ok (.iconst (-1), 1) := by decide +kernel
theorem d_Layers_joinedAt_25 : decode b_Layers_joinedAt 25 = .ok (.if_icmp .ne 7, 3) := by decide +kernel
theorem d_Layers_joinedAt_28 : decode b_Layers_joinedAt 28 = .ok (.iconst 0, 1) := by decide +kernel
theorem d_Layers_joinedAt_29 : decode b_Layers_joinedAt 29 = .ok (.goto 4, 3) := by decide +kernel
theorem d_Layers_joinedAt_32 : decode b_Layers_joinedAt 32 = .ok (.iload_n 3, 1) := by decide +kernel
theorem d_Layers_joinedAt_33 : decode b_Layers_joinedAt 33 = .ok (.ireturn, 1) := by decide +kernel
abbrev b_Layers_exactAt : ByteArray := prog_3_method_17_code
def y_Layers_exactAt : MethodName := ⟨"MaskLayers$Layers", "exactAt", "(II)I"⟩
theorem d_Layers_exactAt_0 : decode b_Layers_exactAt 0 = .ok (.aload_n 0, 1) := by decide +kernel
theorem d_Layers_exactAt_1 : decode b_Layers_exactAt 1 = .ok (.iconst 3, 1) := by decide +kernel
theorem d_Layers_exactAt_2 : decode b_Layers_exactAt 2 = .ok (.iload_n 1, 1) := by decide +kernel
theorem d_Layers_exactAt_3 : decode b_Layers_exactAt 3 = .ok (.iload_n 2, 1) := by decide +kernel
theorem d_Layers_exactAt_4 : decode b_Layers_exactAt 4 = .ok (.invokevirtual 72, 3) := by decide +kernel
theorem d_Layers_exactAt_7 : decode b_Layers_exactAt 7 = .ok (.istore_n 3, 1) := by decide +kernel
theorem d_Layers_exactAt_8 : decode b_Layers_exactAt 8 = .ok (.iload_n 3, 1) := by decide +kernel
theorem d_Layers_exactAt_9 : decode b_Layers_exactAt 9 = .ok (.iconst (-1), 1) := by decide +kernel
theorem d_Layers_exactAt_10 : decode b_Layers_exactAt 10 = .ok (.if_icmp .ne 12, 3) := by decide +kernel
theorem d_Layers_exactAt_13 : decode b_Layers_exactAt 13 = .ok (.aload_n 0, 1) := by decide +kernel
theorem d_Layers_exactAt_14 : decode b_Layers_exactAt 14 = .ok (.iload_n 1, 1) := by decide +kernel
theorem d_Layers_exactAt_15 : decode b_Layers_exactAt 15 = .ok (.iload_n 2, 1) := by decide +kernel
theorem d_Layers_exactAt_16 : decode b_Layers_exactAt 16 = .ok (.invokevirtual 75, 3) := by decide +kernel
theorem d_Layers_exactAt_19 : decode b_Layers_exactAt 19 = .ok (.goto 13, 3) := by decide +kernel
theorem d_Layers_exactAt_22 : decode b_Layers_exactAt 22 = .ok (.aload_n 0, 1) := by decide +kernel
theorem d_Layers_exactAt_23 : decode b_Layers_exactAt 23 = .ok (.iload_n 1, 1) := by decide +kernel
theorem d_Layers_exactAt_24 : decode b_Layers_exactAt 24 = .ok (.iload_n 2, 1) := by decide +kernel
theorem d_Layers_exactAt_25 : decode b_Layers_exactAt 25 = .ok (.invokevirtual 75, 3) := by decide +kernel
theorem d_Layers_exactAt_28 : decode b_Layers_exactAt 28 = .ok (.iload_n 3, 1) := by decide +kernel
theorem d_Layers_exactAt_29 : decode b_Layers_exactAt 29 = .ok (.invokestatic 78, 3) := by decide +kernel
theorem d_Layers_exactAt_32 : decode b_Layers_exactAt 32 = .ok (.ireturn, 1) := by decide +kernel
abbrev b_Arrays_fill : ByteArray := prog_20_method_103_code
def y_Arrays_fill : MethodName := ⟨"java/util/Arrays", "fill", "([II)V"⟩
theorem d_Arrays_fill_0 : decode b_Arrays_fill 0 = .ok (.iconst 0, 1) := by decide +kernel
theorem d_Arrays_fill_1 : decode b_Arrays_fill 1 = .ok (.istore_n 2, 1) := by decide +kernel
theorem d_Arrays_fill_2 : decode b_Arrays_fill 2 = .ok (.aload_n 0, 1) := by decide +kernel
theorem d_Arrays_fill_3 : decode b_Arrays_fill 3 = .ok (.arraylength, 1) := by decide +kernel
theorem d_Arrays_fill_4 : decode b_Arrays_fill 4 = .ok (.istore_n 3, 1) := by decide +kernel
theorem d_Arrays_fill_5 : decode b_Arrays_fill 5 = .ok (.iload_n 2, 1) := by decide +kernel
theorem d_Arrays_fill_6 : decode b_Arrays_fill 6 = .ok (.iload_n 3, 1) := by decide +kernel
theorem d_Arrays_fill_7 : decode b_Arrays_fill 7 = .ok (.if_icmp .ge 13, 3) := by decide +kernel
theorem d_Arrays_fill_10 : decode b_Arrays_fill 10 = .ok (.aload_n 0, 1) := by decide +kernel
theorem d_Arrays_fill_11 : decode b_Arrays_fill 11 = .ok (.iload_n 2, 1) := by decide +kernel
theorem d_Arrays_fill_12 : decode b_Arrays_fill 12 = .ok (.iload_n 1, 1) := by decide +kernel
theorem d_Arrays_fill_13 : decode b_Arrays_fill 13 = .ok (.iastore, 1) := by decide +kernel
end
section
theorem d_Arrays_fill_14 : decode b_Arrays_fill 14 = .ok (.iinc 2 1, 3) := by decide +kernel
theorem d_Arrays_fill_17 : decode b_Arrays_fill 17 = .ok (.goto (-12), 3) := by decide +kernel
theorem d_Arrays_fill_20 : decode b_Arrays_fill 20 = .ok (.return_, 1) := by decide +kernel
abbrev b_Layers_forget : ByteArray := prog_3_method_2_code
def y_Layers_forget : MethodName := ⟨"MaskLayers$Layers", "forget", "()V"⟩
theorem d_Layers_forget_0 : decode b_Layers_forget 0 = .ok (.aload_n 0, 1) := by decide +kernel
theorem d_Layers_forget_1 : decode b_Layers_forget 1 = .ok (.getfield 16, 3) := by decide +kernel
theorem d_Layers_forget_4 : decode b_Layers_forget 4 = .ok (.iconst 0, 1) := by decide +kernel
theorem d_Layers_forget_5 : decode b_Layers_forget 5 = .ok (.invokestatic 30, 3) := by decide +kernel
theorem d_Layers_forget_8 : decode b_Layers_forget 8 = .ok (.aload_n 0, 1) := by decide +kernel
theorem d_Layers_forget_9 : decode b_Layers_forget 9 = .ok (.iconst 0, 1) := by decide +kernel
theorem d_Layers_forget_10 : decode b_Layers_forget 10 = .ok (.putfield 36, 3) := by decide +kernel
theorem d_Layers_forget_13 : decode b_Layers_forget 13 = .ok (.return_, 1) := by decide +kernel
abbrev b_Layers_shape : ByteArray := prog_3_method_3_code
def y_Layers_shape : MethodName := ⟨"MaskLayers$Layers", "shape", "(IIIII)V"⟩
theorem d_Layers_shape_0 : decode b_Layers_shape 0 = .ok (.aload_n 0, 1) := by decide +kernel
theorem d_Layers_shape_1 : decode b_Layers_shape 1 = .ok (.iload_n 1, 1) := by decide +kernel
theorem d_Layers_shape_2 : decode b_Layers_shape 2 = .ok (.putfield 39, 3) := by decide +kernel
theorem d_Layers_shape_5 : decode b_Layers_shape 5 = .ok (.aload_n 0, 1) := by decide +kernel
theorem d_Layers_shape_6 : decode b_Layers_shape 6 = .ok (.iload_n 2, 1) := by decide +kernel
theorem d_Layers_shape_7 : decode b_Layers_shape 7 = .ok (.putfield 42, 3) := by decide +kernel
theorem d_Layers_shape_10 : decode b_Layers_shape 10 = .ok (.aload_n 0, 1) := by decide +kernel
theorem d_Layers_shape_11 : decode b_Layers_shape 11 = .ok (.iload_n 3, 1) := by decide +kernel
theorem d_Layers_shape_12 : decode b_Layers_shape 12 = .ok (.putfield 26, 3) := by decide +kernel
theorem d_Layers_shape_15 : decode b_Layers_shape 15 = .ok (.aload_n 0, 1) := by decide +kernel
theorem d_Layers_shape_16 : decode b_Layers_shape 16 = .ok (.getfield 20, 3) := by decide +kernel
theorem d_Layers_shape_19 : decode b_Layers_shape 19 = .ok (.iconst 2, 1) := by decide +kernel
theorem d_Layers_shape_20 : decode b_Layers_shape 20 = .ok (.iload 4, 2) := by decide +kernel
theorem d_Layers_shape_22 : decode b_Layers_shape 22 = .ok (.iastore, 1) := by decide +kernel
theorem d_Layers_shape_23 : decode b_Layers_shape 23 = .ok (.aload_n 0, 1) := by decide +kernel
theorem d_Layers_shape_24 : decode b_Layers_shape 24 = .ok (.getfield 20, 3) := by decide +kernel
theorem d_Layers_shape_27 : decode b_Layers_shape 27 = .ok (.iconst 0, 1) := by decide +kernel
theorem d_Layers_shape_28 : decode b_Layers_shape 28 = .ok (.iload 5, 2) := by decide +kernel
theorem d_Layers_shape_30 : decode b_Layers_shape 30 = .ok (.iastore, 1) := by decide +kernel
theorem d_Layers_shape_31 : decode b_Layers_shape 31 = .ok (.iconst 0, 1) := by decide +kernel
theorem d_Layers_shape_32 : decode b_Layers_shape 32 = .ok (.istore 6, 2) := by decide +kernel
theorem d_Layers_shape_34 : decode b_Layers_shape 34 = .ok (.iload 6, 2) := by decide +kernel
theorem d_Layers_shape_36 : decode b_Layers_shape 36 = .ok (.iconst 3, 1) := by decide +kernel
theorem d_Layers_shape_37 : decode b_Layers_shape 37 = .ok (.if_icmp .gt 27, 3) := by decide +kernel
theorem d_Layers_shape_40 : decode b_Layers_shape 40 = .ok (.aload_n 0, 1) := by decide +kernel
theorem d_Layers_shape_41 : decode b_Layers_shape 41 = .ok (.getfield 23, 3) := by decide +kernel
theorem d_Layers_shape_44 : decode b_Layers_shape 44 = .ok (.iload 6, 2) := by decide +kernel
theorem d_Layers_shape_46 : decode b_Layers_shape 46 = .ok (.iload_n 1, 1) := by decide +kernel
theorem d_Layers_shape_47 : decode b_Layers_shape 47 = .ok (.aload_n 0, 1) := by decide +kernel
theorem d_Layers_shape_48 : decode b_Layers_shape 48 = .ok (.getfield 20, 3) := by decide +kernel
theorem d_Layers_shape_51 : decode b_Layers_shape 51 = .ok (.iload 6, 2) := by decide +kernel
theorem d_Layers_shape_53 : decode b_Layers_shape 53 = .ok (.iaload, 1) := by decide +kernel
theorem d_Layers_shape_54 : decode b_Layers_shape 54 = .ok (.invokestatic 45, 3) := by decide +kernel
theorem d_Layers_shape_57 : decode b_Layers_shape 57 = .ok (.iastore, 1) := by decide +kernel
theorem d_Layers_shape_58 : decode b_Layers_shape 58 = .ok (.iinc 6 1, 3) := by decide +kernel
theorem d_Layers_shape_61 : decode b_Layers_shape 61 = .ok (.goto (-27), 3) := by decide +kernel
theorem d_Layers_shape_64 : decode b_Layers_shape 64 = .ok (.return_, 1) := by decide +kernel
abbrev b_Layers_add : ByteArray := prog_3_method_4_code
def y_Layers_add : MethodName := ⟨"MaskLayers$Layers", "add", "(II)V"⟩
theorem d_Layers_add_0 : decode b_Layers_add 0 = .ok (.aload_n 0, 1) := by decide +kernel
theorem d_Layers_add_1 : decode b_Layers_add 1 = .ok (.getfield 16, 3) := by decide +kernel
theorem d_Layers_add_4 : decode b_Layers_add 4 = .ok (.iload_n 1, 1) := by decide +kernel
theorem d_Layers_add_5 : decode b_Layers_add 5 = .ok (.dup2, 1) := by decide +kernel
theorem d_Layers_add_6 : decode b_Layers_add 6 = .ok (.iaload, 1) := by decide +kernel
theorem d_Layers_add_7 : decode b_Layers_add 7 = .ok (.iconst 1, 1) := by decide +kernel
theorem d_Layers_add_8 : decode b_Layers_add 8 = .ok (.iload_n 2, 1) := by decide +kernel
theorem d_Layers_add_9 : decode b_Layers_add 9 = .ok (.ishl, 1) := by decide +kernel
theorem d_Layers_add_10 : decode b_Layers_add 10 = .ok (.ior, 1) := by decide +kernel
theorem d_Layers_add_11 : decode b_Layers_add 11 = .ok (.iastore, 1) := by decide +kernel
theorem d_Layers_add_12 : decode b_Layers_add 12 = .ok (.aload_n 0, 1) := by decide +kernel
theorem d_Layers_add_13 : decode b_Layers_add 13 = .ok (.dup, 1) := by decide +kernel
theorem d_Layers_add_14 : decode b_Layers_add 14 = .ok (.getfield 36, 3) := by decide +kernel
theorem d_Layers_add_17 : decode b_Layers_add 17 = .ok (.iconst 1, 1) := by decide +kernel
theorem d_Layers_add_18 : decode b_Layers_add 18 = .ok (.iadd, 1) := by decide +kernel
theorem d_Layers_add_19 : decode b_Layers_add 19 = .ok (.putfield 36, 3) := by decide +kernel
theorem d_Layers_add_22 : decode b_Layers_add 22 = .ok (.return_, 1) := by decide +kernel
abbrev b_ByteRow_empty : ByteArray := prog_2_method_2_code
def y_ByteRow_empty : MethodName := ⟨"MaskLayers$ByteRow", "empty", "()V"⟩
theorem d_ByteRow_empty_0 : decode b_ByteRow_empty 0 = .ok (.aload_n 0, 1) := by decide +kernel
theorem d_ByteRow_empty_1 : decode b_ByteRow_empty 1 = .ok (.iconst 0, 1) := by decide +kernel
theorem d_ByteRow_empty_2 : decode b_ByteRow_empty 2 = .ok (.putfield 15, 3) := by decide +kernel
theorem d_ByteRow_empty_5 : decode b_ByteRow_empty 5 = .ok (.return_, 1) := by decide +kernel
abbrev b_ByteRow_room : ByteArray := prog_2_method_3_code
def y_ByteRow_room : MethodName := ⟨"MaskLayers$ByteRow", "room", "()I"⟩
theorem d_ByteRow_room_0 : decode b_ByteRow_room 0 = .ok (.sipush 6400, 3) := by decide +kernel
theorem d_ByteRow_room_3 : decode b_ByteRow_room 3 = .ok (.aload_n 0, 1) := by decide +kernel
theorem d_ByteRow_room_4 : decode b_ByteRow_room 4 = .ok (.getfield 15, 3) := by decide +kernel
theorem d_ByteRow_room_7 : decode b_ByteRow_room 7 = .ok (.isub, 1) := by decide +kernel
theorem d_ByteRow_room_8 : decode b_ByteRow_room 8 = .ok (.ireturn, 1) := by decide +kernel
abbrev b_ByteRow_holds : ByteArray := prog_2_method_4_code
def y_ByteRow_holds : MethodName := ⟨"MaskLayers$ByteRow", "holds", "(I)Z"⟩
theorem d_ByteRow_holds_0 : decode b_ByteRow_holds 0 = .ok (.iload_n 1, 1) := by decide +kernel
theorem d_ByteRow_holds_1 : decode b_ByteRow_holds 1 = .ok (.ifCond .lt 15, 3) := by decide +kernel
theorem d_ByteRow_holds_4 : decode b_ByteRow_holds 4 = .ok (.iload_n 1, 1) := by decide +kernel
theorem d_ByteRow_holds_5 : decode b_ByteRow_holds 5 = .ok (.aload_n 0, 1) := by decide +kernel
theorem d_ByteRow_holds_6 : decode b_ByteRow_holds 6 = .ok (.getfield 15, 3) := by decide +kernel
theorem d_ByteRow_holds_9 : decode b_ByteRow_holds 9 = .ok (.if_icmp .ge 7, 3) := by decide +kernel
theorem d_ByteRow_holds_12 : decode b_ByteRow_holds 12 = .ok (.iconst 1, 1) := by decide +kernel
theorem d_ByteRow_holds_13 : decode b_ByteRow_holds 13 = .ok (.goto 4, 3) := by decide +kernel
theorem d_ByteRow_holds_16 : decode b_ByteRow_holds 16 = .ok (.iconst 0, 1) := by decide +kernel
theorem d_ByteRow_holds_17 : decode b_ByteRow_holds 17 = .ok (.ireturn, 1) := by decide +kernel
abbrev b_ByteRow_valueAt : ByteArray := prog_2_method_5_code
def y_ByteRow_valueAt : MethodName := ⟨"MaskLayers$ByteRow", "valueAt", "(I)I"⟩
theorem d_ByteRow_valueAt_0 : decode b_ByteRow_valueAt 0 = .ok (.aload_n 0, 1) := by decide +kernel
theorem d_ByteRow_valueAt_1 : decode b_ByteRow_valueAt 1 = .ok (.iload_n 1, 1) := by decide +kernel
theorem d_ByteRow_valueAt_2 : decode b_ByteRow_valueAt 2 = .ok (.invokevirtual 19, 3) := by decide +kernel
theorem d_ByteRow_valueAt_5 : decode b_ByteRow_valueAt 5 = .ok (.ifCond .eq 12, 3) := by decide +kernel
theorem d_ByteRow_valueAt_8 : decode b_ByteRow_valueAt 8 = .ok (.aload_n 0, 1) := by decide +kernel
theorem d_ByteRow_valueAt_9 : decode b_ByteRow_valueAt 9 = .ok (.getfield 9, 3) := by decide +kernel
theorem d_ByteRow_valueAt_12 : decode b_ByteRow_valueAt 12 = .ok (.iload_n 1, 1) := by decide +kernel
theorem d_ByteRow_valueAt_13 : decode b_ByteRow_valueAt 13 = .ok (.iaload, 1) := by decide +kernel
theorem d_ByteRow_valueAt_14 : decode b_ByteRow_valueAt 14 = .ok (.goto 4, 3) := by decide +kernel
theorem d_ByteRow_valueAt_17 : decode b_ByteRow_valueAt 17 = .ok (.iconst (-1), 1) := by decide +kernel
theorem d_ByteRow_valueAt_18 : decode b_ByteRow_valueAt 18 = .ok (.ireturn, 1) := by decide +kernel
abbrev b_ByteRow_replace : ByteArray := prog_2_method_7_code
def y_ByteRow_replace : MethodName := ⟨"MaskLayers$ByteRow", "replace", "(II)I"⟩
theorem d_ByteRow_replace_0 : decode b_ByteRow_replace 0 = .ok (.aload_n 0, 1) := by decide +kernel
theorem d_ByteRow_replace_1 : decode b_ByteRow_replace 1 = .ok (.iload_n 1, 1) := by decide +kernel
theorem d_ByteRow_replace_2 : decode b_ByteRow_replace 2 = .ok (.invokevirtual 39, 3) := by decide +kernel
theorem d_ByteRow_replace_5 : decode b_ByteRow_replace 5 = .ok (.istore_n 3, 1) := by decide +kernel
theorem d_ByteRow_replace_6 : decode b_ByteRow_replace 6 = .ok (.aload_n 0, 1) := by decide +kernel
theorem d_ByteRow_replace_7 : decode b_ByteRow_replace 7 = .ok (.iload_n 1, 1) := by decide +kernel
theorem d_ByteRow_replace_8 : decode b_ByteRow_replace 8 = .ok (.invokevirtual 19, 3) := by decide +kernel
theorem d_ByteRow_replace_11 : decode b_ByteRow_replace 11 = .ok (.ifCond .eq 10, 3) := by decide +kernel
theorem d_ByteRow_replace_14 : decode b_ByteRow_replace 14 = .ok (.aload_n 0, 1) := by decide +kernel
theorem d_ByteRow_replace_15 : decode b_ByteRow_replace 15 = .ok (.getfield 9, 3) := by decide +kernel
theorem d_ByteRow_replace_18 : decode b_ByteRow_replace 18 = .ok (.iload_n 1, 1) := by decide +kernel
theorem d_ByteRow_replace_19 : decode b_ByteRow_replace 19 = .ok (.iload_n 2, 1) := by decide +kernel
theorem d_ByteRow_replace_20 : decode b_ByteRow_replace 20 = .ok (.iastore, 1) := by decide +kernel
theorem d_ByteRow_replace_21 : decode b_ByteRow_replace 21 = .ok (.iload_n 3, 1) := by decide +kernel
theorem d_ByteRow_replace_22 : decode b_ByteRow_replace 22 = .ok (.ireturn, 1) := by decide +kernel
abbrev b_Maker_fillBetween : ByteArray := prog_4_method_9_code
def y_Maker_fillBetween : MethodName := ⟨"MaskLayers$Maker", "fillBetween", "(III)I"⟩
theorem d_Maker_fillBetween_0 : decode b_Maker_fillBetween 0 = .ok (.iload_n 0, 1) := by decide +kernel
theorem d_Maker_fillBetween_1 : decode b_Maker_fillBetween 1 = .ok (.iconst (-1), 1) := by decide +kernel
theorem d_Maker_fillBetween_2 : decode b_Maker_fillBetween 2 = .ok (.if_icmp .ne 10, 3) := by decide +kernel
theorem d_Maker_fillBetween_5 : decode b_Maker_fillBetween 5 = .ok (.iload_n 1, 1) := by decide +kernel
theorem d_Maker_fillBetween_6 : decode b_Maker_fillBetween 6 = .ok (.iconst (-1), 1) := by decide +kernel
theorem d_Maker_fillBetween_7 : decode b_Maker_fillBetween 7 = .ok (.if_icmp .ne 5, 3) := by decide +kernel
theorem d_Maker_fillBetween_10 : decode b_Maker_fillBetween 10 = .ok (.iload_n 2, 1) := by decide +kernel
theorem d_Maker_fillBetween_11 : decode b_Maker_fillBetween 11 = .ok (.ireturn, 1) := by decide +kernel
theorem d_Maker_fillBetween_12 : decode b_Maker_fillBetween 12 = .ok (.iload_n 0, 1) := by decide +kernel
theorem d_Maker_fillBetween_13 : decode b_Maker_fillBetween 13 = .ok (.iconst (-1), 1) := by decide +kernel
theorem d_Maker_fillBetween_14 : decode b_Maker_fillBetween 14 = .ok (.if_icmp .ne 5, 3) := by decide +kernel
theorem d_Maker_fillBetween_17 : decode b_Maker_fillBetween 17 = .ok (.iload_n 1, 1) := by decide +kernel
theorem d_Maker_fillBetween_18 : decode b_Maker_fillBetween 18 = .ok (.ireturn, 1) := by decide +kernel
theorem d_Maker_fillBetween_19 : decode b_Maker_fillBetween 19 = .ok (.iload_n 1, 1) := by decide +kernel
theorem d_Maker_fillBetween_20 : decode b_Maker_fillBetween 20 = .ok (.iconst (-1), 1) := by decide +kernel
theorem d_Maker_fillBetween_21 : decode b_Maker_fillBetween 21 = .ok (.if_icmp .ne 7, 3) := by decide +kernel
theorem d_Maker_fillBetween_24 : decode b_Maker_fillBetween 24 = .ok (.iload_n 0, 1) := by decide +kernel
theorem d_Maker_fillBetween_25 : decode b_Maker_fillBetween 25 = .ok (.goto 8, 3) := by decide +kernel
theorem d_Maker_fillBetween_28 : decode b_Maker_fillBetween 28 = .ok (.iload_n 0, 1) := by decide +kernel
theorem d_Maker_fillBetween_29 : decode b_Maker_fillBetween 29 = .ok (.iload_n 1, 1) := by decide +kernel
theorem d_Maker_fillBetween_30 : decode b_Maker_fillBetween 30 = .ok (.invokestatic 134, 3) := by decide +kernel
theorem d_Maker_fillBetween_33 : decode b_Maker_fillBetween 33 = .ok (.ireturn, 1) := by decide +kernel
abbrev b_Maker_wasFilled : ByteArray := prog_4_method_3_code
def y_Maker_wasFilled : MethodName := ⟨"MaskLayers$Maker", "wasFilled", "(III)Z"⟩
theorem d_Maker_wasFilled_0 : decode b_Maker_wasFilled 0 = .ok (.aload_n 0, 1) := by decide +kernel
theorem d_Maker_wasFilled_1 : decode b_Maker_wasFilled 1 = .ok (.getfield 9, 3) := by decide +kernel
theorem d_Maker_wasFilled_4 : decode b_Maker_wasFilled 4 = .ok (.aload_n 0, 1) := by decide +kernel
theorem d_Maker_wasFilled_5 : decode b_Maker_wasFilled 5 = .ok (.getfield 9, 3) := by decide +kernel
theorem d_Maker_wasFilled_8 : decode b_Maker_wasFilled 8 = .ok (.iload_n 3, 1) := by decide +kernel
theorem d_Maker_wasFilled_9 : decode b_Maker_wasFilled 9 = .ok (.invokevirtual 48, 3) := by decide +kernel
theorem d_Maker_wasFilled_12 : decode b_Maker_wasFilled 12 = .ok (.iload_n 1, 1) := by decide +kernel
theorem d_Maker_wasFilled_13 : decode b_Maker_wasFilled 13 = .ok (.invokevirtual 52, 3) := by decide +kernel
theorem d_Maker_wasFilled_16 : decode b_Maker_wasFilled 16 = .ok (.ifCond .eq 30, 3) := by decide +kernel
theorem d_Maker_wasFilled_19 : decode b_Maker_wasFilled 19 = .ok (.aload_n 0, 1) := by decide +kernel
theorem d_Maker_wasFilled_20 : decode b_Maker_wasFilled 20 = .ok (.getfield 22, 3) := by decide +kernel
theorem d_Maker_wasFilled_23 : decode b_Maker_wasFilled 23 = .ok (.aload_n 0, 1) := by decide +kernel
theorem d_Maker_wasFilled_24 : decode b_Maker_wasFilled 24 = .ok (.getfield 9, 3) := by decide +kernel
theorem d_Maker_wasFilled_27 : decode b_Maker_wasFilled 27 = .ok (.iload_n 1, 1) := by decide +kernel
theorem d_Maker_wasFilled_28 : decode b_Maker_wasFilled 28 = .ok (.iload_n 2, 1) := by decide +kernel
theorem d_Maker_wasFilled_29 : decode b_Maker_wasFilled 29 = .ok (.iload_n 3, 1) := by decide +kernel
theorem d_Maker_wasFilled_30 : decode b_Maker_wasFilled 30 = .ok (.invokevirtual 56, 3) := by decide +kernel
theorem d_Maker_wasFilled_33 : decode b_Maker_wasFilled 33 = .ok (.iaload, 1) := by decide +kernel
theorem d_Maker_wasFilled_34 : decode b_Maker_wasFilled 34 = .ok (.iload_n 1, 1) := by decide +kernel
theorem d_Maker_wasFilled_35 : decode b_Maker_wasFilled 35 = .ok (.ishr, 1) := by decide +kernel
theorem d_Maker_wasFilled_36 : decode b_Maker_wasFilled 36 = .ok (.iconst 1, 1) := by decide +kernel
theorem d_Maker_wasFilled_37 : decode b_Maker_wasFilled 37 = .ok (.iand, 1) := by decide +kernel
theorem d_Maker_wasFilled_38 : decode b_Maker_wasFilled 38 = .ok (.iconst 1, 1) := by decide +kernel
theorem d_Maker_wasFilled_39 : decode b_Maker_wasFilled 39 = .ok (.if_icmp .ne 7, 3) := by decide +kernel
theorem d_Maker_wasFilled_42 : decode b_Maker_wasFilled 42 = .ok (.iconst 1, 1) := by decide +kernel
theorem d_Maker_wasFilled_43 : decode b_Maker_wasFilled 43 = .ok (.goto 4, 3) := by decide +kernel
theorem d_Maker_wasFilled_46 : decode b_Maker_wasFilled 46 = .ok (.iconst 0, 1) := by decide +kernel
theorem d_Maker_wasFilled_47 : decode b_Maker_wasFilled 47 = .ok (.ireturn, 1) := by decide +kernel
abbrev b_Maker_meanOfBlock : ByteArray := prog_4_method_7_code
def y_Maker_meanOfBlock : MethodName := ⟨"MaskLayers$Maker", "meanOfBlock", "(IIII)I"⟩
theorem d_Maker_meanOfBlock_0 : decode b_Maker_meanOfBlock 0 = .ok (.aload_n 0, 1) := by decide +kernel
theorem d_Maker_meanOfBlock_1 : decode b_Maker_meanOfBlock 1 = .ok (.getfield 9, 3) := by decide +kernel
theorem d_Maker_meanOfBlock_4 : decode b_Maker_meanOfBlock 4 = .ok (.getfield 99, 3) := by decide +kernel
theorem d_Maker_meanOfBlock_7 : decode b_Maker_meanOfBlock 7 = .ok (.iload_n 2, 1) := by decide +kernel
theorem d_Maker_meanOfBlock_8 : decode b_Maker_meanOfBlock 8 = .ok (.iaload, 1) := by decide +kernel
theorem d_Maker_meanOfBlock_9 : decode b_Maker_meanOfBlock 9 = .ok (.istore 5, 2) := by decide +kernel
theorem d_Maker_meanOfBlock_11 : decode b_Maker_meanOfBlock 11 = .ok (.aload_n 0, 1) := by decide +kernel
theorem d_Maker_meanOfBlock_12 : decode b_Maker_meanOfBlock 12 = .ok (.getfield 9, 3) := by decide +kernel
theorem d_Maker_meanOfBlock_15 : decode b_Maker_meanOfBlock 15 = .ok (.iload_n 1, 1) := by decide +kernel
theorem d_Maker_meanOfBlock_16 : decode b_Maker_meanOfBlock 16 = .ok (.invokevirtual 102, 3) := by decide +kernel
theorem d_Maker_meanOfBlock_19 : decode b_Maker_meanOfBlock 19 = .ok (.iload 4, 2) := by decide +kernel
theorem d_Maker_meanOfBlock_21 : decode b_Maker_meanOfBlock 21 = .ok (.iload 5, 2) := by decide +kernel
theorem d_Maker_meanOfBlock_23 : decode b_Maker_meanOfBlock 23 = .ok (.imul, 1) := by decide +kernel
theorem d_Maker_meanOfBlock_24 : decode b_Maker_meanOfBlock 24 = .ok (.iadd, 1) := by decide +kernel
theorem d_Maker_meanOfBlock_25 : decode b_Maker_meanOfBlock 25 = .ok (.istore 6, 2) := by decide +kernel
theorem d_Maker_meanOfBlock_27 : decode b_Maker_meanOfBlock 27 = .ok (.iload 6, 2) := by decide +kernel
theorem d_Maker_meanOfBlock_29 : decode b_Maker_meanOfBlock 29 = .ok (.iload 5, 2) := by decide +kernel
theorem d_Maker_meanOfBlock_31 : decode b_Maker_meanOfBlock 31 = .ok (.iadd, 1) := by decide +kernel
theorem d_Maker_meanOfBlock_32 : decode b_Maker_meanOfBlock 32 = .ok (.aload_n 0, 1) := by decide +kernel
theorem d_Maker_meanOfBlock_33 : decode b_Maker_meanOfBlock 33 = .ok (.getfield 9, 3) := by decide +kernel
theorem d_Maker_meanOfBlock_36 : decode b_Maker_meanOfBlock 36 = .ok (.iload_n 1, 1) := by decide +kernel
theorem d_Maker_meanOfBlock_37 : decode b_Maker_meanOfBlock 37 = .ok (.invokevirtual 105, 3) := by decide +kernel
theorem d_Maker_meanOfBlock_40 : decode b_Maker_meanOfBlock 40 = .ok (.invokestatic 108, 3) := by decide +kernel
theorem d_Maker_meanOfBlock_43 : decode b_Maker_meanOfBlock 43 = .ok (.istore 7, 2) := by decide +kernel
theorem d_Maker_meanOfBlock_45 : decode b_Maker_meanOfBlock 45 = .ok (.iload_n 3, 1) := by decide +kernel
theorem d_Maker_meanOfBlock_46 : decode b_Maker_meanOfBlock 46 = .ok (.iload 5, 2) := by decide +kernel
theorem d_Maker_meanOfBlock_48 : decode b_Maker_meanOfBlock 48 = .ok (.imul, 1) := by decide +kernel
theorem d_Maker_meanOfBlock_49 : decode b_Maker_meanOfBlock 49 = .ok (.istore 8, 2) := by decide +kernel
theorem d_Maker_meanOfBlock_51 : decode b_Maker_meanOfBlock 51 = .ok (.iload 8, 2) := by decide +kernel
theorem d_Maker_meanOfBlock_53 : decode b_Maker_meanOfBlock 53 = .ok (.iload 5, 2) := by decide +kernel
theorem d_Maker_meanOfBlock_55 : decode b_Maker_meanOfBlock 55 = .ok (.iadd, 1) := by decide +kernel
theorem d_Maker_meanOfBlock_56 : decode b_Maker_meanOfBlock 56 = .ok (.aload_n 0, 1) := by decide +kernel
theorem d_Maker_meanOfBlock_57 : decode b_Maker_meanOfBlock 57 = .ok (.getfield 9, 3) := by decide +kernel
theorem d_Maker_meanOfBlock_60 : decode b_Maker_meanOfBlock 60 = .ok (.getfield 113, 3) := by decide +kernel
theorem d_Maker_meanOfBlock_63 : decode b_Maker_meanOfBlock 63 = .ok (.invokestatic 108, 3) := by decide +kernel
theorem d_Maker_meanOfBlock_66 : decode b_Maker_meanOfBlock 66 = .ok (.istore 9, 2) := by decide +kernel
theorem d_Maker_meanOfBlock_68 : decode b_Maker_meanOfBlock 68 = .ok (.iload_n 2, 1) := by decide +kernel
theorem d_Maker_meanOfBlock_69 : decode b_Maker_meanOfBlock 69 = .ok (.iconst 2, 1) := by decide +kernel
theorem d_Maker_meanOfBlock_70 : decode b_Maker_meanOfBlock 70 = .ok (.if_icmp .ne 7, 3) := by decide +kernel
theorem d_Maker_meanOfBlock_73 : decode b_Maker_meanOfBlock 73 = .ok (.iconst 1, 1) := by decide +kernel
theorem d_Maker_meanOfBlock_74 : decode b_Maker_meanOfBlock 74 = .ok (.goto 4, 3) := by decide +kernel
theorem d_Maker_meanOfBlock_77 : decode b_Maker_meanOfBlock 77 = .ok (.iconst 0, 1) := by decide +kernel
theorem d_Maker_meanOfBlock_78 : decode b_Maker_meanOfBlock 78 = .ok (.istore 10, 2) := by decide +kernel
theorem d_Maker_meanOfBlock_80 : decode b_Maker_meanOfBlock 80 = .ok (.iconst 0, 1) := by decide +kernel
theorem d_Maker_meanOfBlock_81 : decode b_Maker_meanOfBlock 81 = .ok (.istore 11, 2) := by decide +kernel
theorem d_Maker_meanOfBlock_83 : decode b_Maker_meanOfBlock 83 = .ok (.iconst 0, 1) := by decide +kernel
theorem d_Maker_meanOfBlock_84 : decode b_Maker_meanOfBlock 84 = .ok (.istore 12, 2) := by decide +kernel
theorem d_Maker_meanOfBlock_86 : decode b_Maker_meanOfBlock 86 = .ok (.iconst 0, 1) := by decide +kernel
theorem d_Maker_meanOfBlock_87 : decode b_Maker_meanOfBlock 87 = .ok (.istore 13, 2) := by decide +kernel
theorem d_Maker_meanOfBlock_89 : decode b_Maker_meanOfBlock 89 = .ok (.iconst 0, 1) := by decide +kernel
theorem d_Maker_meanOfBlock_90 : decode b_Maker_meanOfBlock 90 = .ok (.istore 14, 2) := by decide +kernel
theorem d_Maker_meanOfBlock_92 : decode b_Maker_meanOfBlock 92 = .ok (.iload 6, 2) := by decide +kernel
theorem d_Maker_meanOfBlock_94 : decode b_Maker_meanOfBlock 94 = .ok (.istore 15, 2) := by decide +kernel
theorem d_Maker_meanOfBlock_96 : decode b_Maker_meanOfBlock 96 = .ok (.iload 15, 2) := by decide +kernel
theorem d_Maker_meanOfBlock_98 : decode b_Maker_meanOfBlock 98 = .ok (.iload 7, 2) := by decide +kernel
theorem d_Maker_meanOfBlock_100 : decode b_Maker_meanOfBlock 100 = .ok (.if_icmp .ge 112, 3) := by decide +kernel
theorem d_Maker_meanOfBlock_103 : decode b_Maker_meanOfBlock 103 = .ok (.iload 15, 2) := by decide +kernel
theorem d_Maker_meanOfBlock_105 : decode b_Maker_meanOfBlock 105 = .ok (.aload_n 0, 1) := by decide +kernel
theorem d_Maker_meanOfBlock_106 : decode b_Maker_meanOfBlock 106 = .ok (.getfield 9, 3) := by decide +kernel
theorem d_Maker_meanOfBlock_109 : decode b_Maker_meanOfBlock 109 = .ok (.getfield 113, 3) := by decide +kernel
theorem d_Maker_meanOfBlock_112 : decode b_Maker_meanOfBlock 112 = .ok (.imul, 1) := by decide +kernel
theorem d_Maker_meanOfBlock_113 : decode b_Maker_meanOfBlock 113 = .ok (.iload 9, 2) := by decide +kernel
theorem d_Maker_meanOfBlock_115 : decode b_Maker_meanOfBlock 115 = .ok (.iadd, 1) := by decide +kernel
theorem d_Maker_meanOfBlock_116 : decode b_Maker_meanOfBlock 116 = .ok (.istore 16, 2) := by decide +kernel
theorem d_Maker_meanOfBlock_118 : decode b_Maker_meanOfBlock 118 = .ok (.iload 15, 2) := by decide +kernel
theorem d_Maker_meanOfBlock_120 : decode b_Maker_meanOfBlock 120 = .ok (.aload_n 0, 1) := by decide +kernel
theorem d_Maker_meanOfBlock_121 : decode b_Maker_meanOfBlock 121 = .ok (.getfield 9, 3) := by decide +kernel
theorem d_Maker_meanOfBlock_124 : decode b_Maker_meanOfBlock 124 = .ok (.getfield 113, 3) := by decide +kernel
theorem d_Maker_meanOfBlock_127 : decode b_Maker_meanOfBlock 127 = .ok (.imul, 1) := by decide +kernel
theorem d_Maker_meanOfBlock_128 : decode b_Maker_meanOfBlock 128 = .ok (.iload 8, 2) := by decide +kernel
theorem d_Maker_meanOfBlock_130 : decode b_Maker_meanOfBlock 130 = .ok (.iadd, 1) := by decide +kernel
theorem d_Maker_meanOfBlock_131 : decode b_Maker_meanOfBlock 131 = .ok (.istore 17, 2) := by decide +kernel
theorem d_Maker_meanOfBlock_133 : decode b_Maker_meanOfBlock 133 = .ok (.iload 17, 2) := by decide +kernel
theorem d_Maker_meanOfBlock_135 : decode b_Maker_meanOfBlock 135 = .ok (.iload 16, 2) := by decide +kernel
theorem d_Maker_meanOfBlock_137 : decode b_Maker_meanOfBlock 137 = .ok (.if_icmp .ge 69, 3) := by decide +kernel
theorem d_Maker_meanOfBlock_140 : decode b_Maker_meanOfBlock 140 = .ok (.aload_n 0, 1) := by decide +kernel
theorem d_Maker_meanOfBlock_141 : decode b_Maker_meanOfBlock 141 = .ok (.getfield 19, 3) := by decide +kernel
theorem d_Maker_meanOfBlock_144 : decode b_Maker_meanOfBlock 144 = .ok (.iload 17, 2) := by decide +kernel
theorem d_Maker_meanOfBlock_146 : decode b_Maker_meanOfBlock 146 = .ok (.iaload, 1) := by decide +kernel
theorem d_Maker_meanOfBlock_147 : decode b_Maker_meanOfBlock 147 = .ok (.iload 10, 2) := by decide +kernel
theorem d_Maker_meanOfBlock_149 : decode b_Maker_meanOfBlock 149 = .ok (.if_icmp .ne 51, 3) := by decide +kernel
theorem d_Maker_meanOfBlock_152 : decode b_Maker_meanOfBlock 152 = .ok (.iinc 11 1, 3) := by decide +kernel
theorem d_Maker_meanOfBlock_155 : decode b_Maker_meanOfBlock 155 = .ok (.iload 12, 2) := by decide +kernel
theorem d_Maker_meanOfBlock_157 : decode b_Maker_meanOfBlock 157 = .ok (.aload_n 0, 1) := by decide +kernel
theorem d_Maker_meanOfBlock_158 : decode b_Maker_meanOfBlock 158 = .ok (.getfield 15, 3) := by decide +kernel
theorem d_Maker_meanOfBlock_161 : decode b_Maker_meanOfBlock 161 = .ok (.iload 17, 2) := by decide +kernel
theorem d_Maker_meanOfBlock_163 : decode b_Maker_meanOfBlock 163 = .ok (.iaload, 1) := by decide +kernel
theorem d_Maker_meanOfBlock_164 : decode b_Maker_meanOfBlock 164 = .ok (.invokestatic 116, 3) := by decide +kernel
theorem d_Maker_meanOfBlock_167 : decode b_Maker_meanOfBlock 167 = .ok (.iadd, 1) := by decide +kernel
theorem d_Maker_meanOfBlock_168 : decode b_Maker_meanOfBlock 168 = .ok (.istore 12, 2) := by decide +kernel
theorem d_Maker_meanOfBlock_170 : decode b_Maker_meanOfBlock 170 = .ok (.iload 13, 2) := by decide +kernel
theorem d_Maker_meanOfBlock_172 : decode b_Maker_meanOfBlock 172 = .ok (.aload_n 0, 1) := by decide +kernel
theorem d_Maker_meanOfBlock_173 : decode b_Maker_meanOfBlock 173 = .ok (.getfield 15, 3) := by decide +kernel
theorem d_Maker_meanOfBlock_176 : decode b_Maker_meanOfBlock 176 = .ok (.iload 17, 2) := by decide +kernel
theorem d_Maker_meanOfBlock_178 : decode b_Maker_meanOfBlock 178 = .ok (.iaload, 1) := by decide +kernel
theorem d_Maker_meanOfBlock_179 : decode b_Maker_meanOfBlock 179 = .ok (.invokestatic 119, 3) := by decide +kernel
theorem d_Maker_meanOfBlock_182 : decode b_Maker_meanOfBlock 182 = .ok (.iadd, 1) := by decide +kernel
theorem d_Maker_meanOfBlock_183 : decode b_Maker_meanOfBlock 183 = .ok (.istore 13, 2) := by decide +kernel
theorem d_Maker_meanOfBlock_185 : decode b_Maker_meanOfBlock 185 = .ok (.iload 14, 2) := by decide +kernel
theorem d_Maker_meanOfBlock_187 : decode b_Maker_meanOfBlock 187 = .ok (.aload_n 0, 1) := by decide +kernel
theorem d_Maker_meanOfBlock_188 : decode b_Maker_meanOfBlock 188 = .ok (.getfield 15, 3) := by decide +kernel
theorem d_Maker_meanOfBlock_191 : decode b_Maker_meanOfBlock 191 = .ok (.iload 17, 2) := by decide +kernel
theorem d_Maker_meanOfBlock_193 : decode b_Maker_meanOfBlock 193 = .ok (.iaload, 1) := by decide +kernel
theorem d_Maker_meanOfBlock_194 : decode b_Maker_meanOfBlock 194 = .ok (.invokestatic 122, 3) := by decide +kernel
theorem d_Maker_meanOfBlock_197 : decode b_Maker_meanOfBlock 197 = .ok (.iadd, 1) := by decide +kernel
theorem d_Maker_meanOfBlock_198 : decode b_Maker_meanOfBlock 198 = .ok (.istore 14, 2) := by decide +kernel
theorem d_Maker_meanOfBlock_200 : decode b_Maker_meanOfBlock 200 = .ok (.iinc 17 1, 3) := by decide +kernel
theorem d_Maker_meanOfBlock_203 : decode b_Maker_meanOfBlock 203 = .ok (.goto (-70), 3) := by decide +kernel
theorem d_Maker_meanOfBlock_206 : decode b_Maker_meanOfBlock 206 = .ok (.iinc 15 1, 3) := by decide +kernel
theorem d_Maker_meanOfBlock_209 : decode b_Maker_meanOfBlock 209 = .ok (.goto (-113), 3) := by decide +kernel
theorem d_Maker_meanOfBlock_212 : decode b_Maker_meanOfBlock 212 = .ok (.iload 11, 2) := by decide +kernel
theorem d_Maker_meanOfBlock_214 : decode b_Maker_meanOfBlock 214 = .ok (.ifCond .ne 7, 3) := by decide +kernel
theorem d_Maker_meanOfBlock_217 : decode b_Maker_meanOfBlock 217 = .ok (.iconst (-1), 1) := by decide +kernel
theorem d_Maker_meanOfBlock_218 : decode b_Maker_meanOfBlock 218 = .ok (.goto 27, 3) := by decide +kernel
theorem d_Maker_meanOfBlock_221 : decode b_Maker_meanOfBlock 221 = .ok (.iload 12, 2) := by decide +kernel
theorem d_Maker_meanOfBlock_223 : decode b_Maker_meanOfBlock 223 = .ok (.iload 11, 2) := by decide +kernel
theorem d_Maker_meanOfBlock_225 : decode b_Maker_meanOfBlock 225 = .ok (.invokestatic 125, 3) := by decide +kernel
theorem d_Maker_meanOfBlock_228 : decode b_Maker_meanOfBlock 228 = .ok (.iload 13, 2) := by decide +kernel
theorem d_Maker_meanOfBlock_230 : decode b_Maker_meanOfBlock 230 = .ok (.iload 11, 2) := by decide +kernel
theorem d_Maker_meanOfBlock_232 : decode b_Maker_meanOfBlock 232 = .ok (.invokestatic 125, 3) := by decide +kernel
theorem d_Maker_meanOfBlock_235 : decode b_Maker_meanOfBlock 235 = .ok (.iload 14, 2) := by decide +kernel
theorem d_Maker_meanOfBlock_237 : decode b_Maker_meanOfBlock 237 = .ok (.iload 11, 2) := by decide +kernel
theorem d_Maker_meanOfBlock_239 : decode b_Maker_meanOfBlock 239 = .ok (.invokestatic 125, 3) := by decide +kernel
theorem d_Maker_meanOfBlock_242 : decode b_Maker_meanOfBlock 242 = .ok (.invokestatic 128, 3) := by decide +kernel
theorem d_Maker_meanOfBlock_245 : decode b_Maker_meanOfBlock 245 = .ok (.ireturn, 1) := by decide +kernel
abbrev b_Maker_takeMask : ByteArray := prog_4_method_5_code
def y_Maker_takeMask : MethodName := ⟨"MaskLayers$Maker", "takeMask", "(I)I"⟩
theorem d_Maker_takeMask_0 : decode b_Maker_takeMask 0 = .ok (.iconst 0, 1) := by decide +kernel
theorem d_Maker_takeMask_1 : decode b_Maker_takeMask 1 = .ok (.istore_n 2, 1) := by decide +kernel
theorem d_Maker_takeMask_2 : decode b_Maker_takeMask 2 = .ok (.aload_n 0, 1) := by decide +kernel
theorem d_Maker_takeMask_3 : decode b_Maker_takeMask 3 = .ok (.getfield 9, 3) := by decide +kernel
theorem d_Maker_takeMask_6 : decode b_Maker_takeMask 6 = .ok (.iload_n 1, 1) := by decide +kernel
theorem d_Maker_takeMask_7 : decode b_Maker_takeMask 7 = .ok (.iconst 1, 1) := by decide +kernel
theorem d_Maker_takeMask_8 : decode b_Maker_takeMask 8 = .ok (.invokevirtual 63, 3) := by decide +kernel
theorem d_Maker_takeMask_11 : decode b_Maker_takeMask 11 = .ok (.istore_n 3, 1) := by decide +kernel
theorem d_Maker_takeMask_12 : decode b_Maker_takeMask 12 = .ok (.aload_n 0, 1) := by decide +kernel
theorem d_Maker_takeMask_13 : decode b_Maker_takeMask 13 = .ok (.getfield 9, 3) := by decide +kernel
theorem d_Maker_takeMask_16 : decode b_Maker_takeMask 16 = .ok (.iload_n 1, 1) := by decide +kernel
theorem d_Maker_takeMask_17 : decode b_Maker_takeMask 17 = .ok (.invokevirtual 67, 3) := by decide +kernel
theorem d_Maker_takeMask_20 : decode b_Maker_takeMask 20 = .ok (.istore 4, 2) := by decide +kernel
theorem d_Maker_takeMask_22 : decode b_Maker_takeMask 22 = .ok (.iload 4, 2) := by decide +kernel
theorem d_Maker_takeMask_24 : decode b_Maker_takeMask 24 = .ok (.iload_n 3, 1) := by decide +kernel
theorem d_Maker_takeMask_25 : decode b_Maker_takeMask 25 = .ok (.if_icmp .ge 38, 3) := by decide +kernel
theorem d_Maker_takeMask_28 : decode b_Maker_takeMask 28 = .ok (.aload_n 0, 1) := by decide +kernel
theorem d_Maker_takeMask_29 : decode b_Maker_takeMask 29 = .ok (.getfield 9, 3) := by decide +kernel
theorem d_Maker_takeMask_32 : decode b_Maker_takeMask 32 = .ok (.getfield 85, 3) := by decide +kernel
theorem d_Maker_takeMask_35 : decode b_Maker_takeMask 35 = .ok (.iconst 1, 1) := by decide +kernel
theorem d_Maker_takeMask_36 : decode b_Maker_takeMask 36 = .ok (.aaload, 1) := by decide +kernel
theorem d_Maker_takeMask_37 : decode b_Maker_takeMask 37 = .ok (.iload 4, 2) := by decide +kernel
theorem d_Maker_takeMask_39 : decode b_Maker_takeMask 39 = .ok (.aload_n 0, 1) := by decide +kernel
theorem d_Maker_takeMask_40 : decode b_Maker_takeMask 40 = .ok (.getfield 19, 3) := by decide +kernel
theorem d_Maker_takeMask_43 : decode b_Maker_takeMask 43 = .ok (.iload 4, 2) := by decide +kernel
theorem d_Maker_takeMask_45 : decode b_Maker_takeMask 45 = .ok (.iaload, 1) := by decide +kernel
theorem d_Maker_takeMask_46 : decode b_Maker_takeMask 46 = .ok (.iastore, 1) := by decide +kernel
theorem d_Maker_takeMask_47 : decode b_Maker_takeMask 47 = .ok (.iload_n 2, 1) := by decide +kernel
theorem d_Maker_takeMask_48 : decode b_Maker_takeMask 48 = .ok (.aload_n 0, 1) := by decide +kernel
theorem d_Maker_takeMask_49 : decode b_Maker_takeMask 49 = .ok (.getfield 19, 3) := by decide +kernel
theorem d_Maker_takeMask_52 : decode b_Maker_takeMask 52 = .ok (.iload 4, 2) := by decide +kernel
theorem d_Maker_takeMask_54 : decode b_Maker_takeMask 54 = .ok (.iaload, 1) := by decide +kernel
theorem d_Maker_takeMask_55 : decode b_Maker_takeMask 55 = .ok (.iadd, 1) := by decide +kernel
theorem d_Maker_takeMask_56 : decode b_Maker_takeMask 56 = .ok (.istore_n 2, 1) := by decide +kernel
theorem d_Maker_takeMask_57 : decode b_Maker_takeMask 57 = .ok (.iinc 4 1, 3) := by decide +kernel
theorem d_Maker_takeMask_60 : decode b_Maker_takeMask 60 = .ok (.goto (-38), 3) := by decide +kernel
theorem d_Maker_takeMask_63 : decode b_Maker_takeMask 63 = .ok (.iload_n 2, 1) := by decide +kernel
theorem d_Maker_takeMask_64 : decode b_Maker_takeMask 64 = .ok (.ireturn, 1) := by decide +kernel
abbrev b_Maker_makeBlocks : ByteArray := prog_4_method_6_code
def y_Maker_makeBlocks : MethodName := ⟨"MaskLayers$Maker", "makeBlocks", "(II)I"⟩
theorem d_Maker_makeBlocks_0 : decode b_Maker_makeBlocks 0 = .ok (.aload_n 0, 1) := by decide +kernel
theorem d_Maker_makeBlocks_1 : decode b_Maker_makeBlocks 1 = .ok (.getfield 9, 3) := by decide +kernel
theorem d_Maker_makeBlocks_4 : decode b_Maker_makeBlocks 4 = .ok (.getfield 85, 3) := by decide +kernel
theorem d_Maker_makeBlocks_7 : decode b_Maker_makeBlocks 7 = .ok (.iload_n 2, 1) := by decide +kernel
theorem d_Maker_makeBlocks_8 : decode b_Maker_makeBlocks 8 = .ok (.aaload, 1) := by decide +kernel
theorem d_Maker_makeBlocks_9 : decode b_Maker_makeBlocks 9 = .ok (.astore_n 3, 1) := by decide +kernel
theorem d_Maker_makeBlocks_10 : decode b_Maker_makeBlocks 10 = .ok (.aload_n 0, 1) := by decide +kernel
theorem d_Maker_makeBlocks_11 : decode b_Maker_makeBlocks 11 = .ok (.getfield 9, 3) := by decide +kernel
theorem d_Maker_makeBlocks_14 : decode b_Maker_makeBlocks 14 = .ok (.iload_n 1, 1) := by decide +kernel
theorem d_Maker_makeBlocks_15 : decode b_Maker_makeBlocks 15 = .ok (.iload_n 2, 1) := by decide +kernel
theorem d_Maker_makeBlocks_16 : decode b_Maker_makeBlocks 16 = .ok (.invokevirtual 89, 3) := by decide +kernel
theorem d_Maker_makeBlocks_19 : decode b_Maker_makeBlocks 19 = .ok (.istore 4, 2) := by decide +kernel
theorem d_Maker_makeBlocks_21 : decode b_Maker_makeBlocks 21 = .ok (.aload_n 0, 1) := by decide +kernel
theorem d_Maker_makeBlocks_22 : decode b_Maker_makeBlocks 22 = .ok (.getfield 9, 3) := by decide +kernel
theorem d_Maker_makeBlocks_25 : decode b_Maker_makeBlocks 25 = .ok (.getfield 92, 3) := by decide +kernel
theorem d_Maker_makeBlocks_28 : decode b_Maker_makeBlocks 28 = .ok (.iload_n 2, 1) := by decide +kernel
theorem d_Maker_makeBlocks_29 : decode b_Maker_makeBlocks 29 = .ok (.iaload, 1) := by decide +kernel
theorem d_Maker_makeBlocks_30 : decode b_Maker_makeBlocks 30 = .ok (.istore 5, 2) := by decide +kernel
theorem d_Maker_makeBlocks_32 : decode b_Maker_makeBlocks 32 = .ok (.aload_n 0, 1) := by decide +kernel
theorem d_Maker_makeBlocks_33 : decode b_Maker_makeBlocks 33 = .ok (.getfield 9, 3) := by decide +kernel
theorem d_Maker_makeBlocks_36 : decode b_Maker_makeBlocks 36 = .ok (.iload_n 1, 1) := by decide +kernel
theorem d_Maker_makeBlocks_37 : decode b_Maker_makeBlocks 37 = .ok (.invokevirtual 67, 3) := by decide +kernel
theorem d_Maker_makeBlocks_40 : decode b_Maker_makeBlocks 40 = .ok (.istore 6, 2) := by decide +kernel
theorem d_Maker_makeBlocks_42 : decode b_Maker_makeBlocks 42 = .ok (.iconst (-1), 1) := by decide +kernel
theorem d_Maker_makeBlocks_43 : decode b_Maker_makeBlocks 43 = .ok (.istore 7, 2) := by decide +kernel
theorem d_Maker_makeBlocks_45 : decode b_Maker_makeBlocks 45 = .ok (.iconst 0, 1) := by decide +kernel
theorem d_Maker_makeBlocks_46 : decode b_Maker_makeBlocks 46 = .ok (.istore 8, 2) := by decide +kernel
theorem d_Maker_makeBlocks_48 : decode b_Maker_makeBlocks 48 = .ok (.iload 8, 2) := by decide +kernel
theorem d_Maker_makeBlocks_50 : decode b_Maker_makeBlocks 50 = .ok (.iload 4, 2) := by decide +kernel
theorem d_Maker_makeBlocks_52 : decode b_Maker_makeBlocks 52 = .ok (.if_icmp .ge 59, 3) := by decide +kernel
theorem d_Maker_makeBlocks_55 : decode b_Maker_makeBlocks 55 = .ok (.iconst 0, 1) := by decide +kernel
theorem d_Maker_makeBlocks_56 : decode b_Maker_makeBlocks 56 = .ok (.istore 9, 2) := by decide +kernel
theorem d_Maker_makeBlocks_58 : decode b_Maker_makeBlocks 58 = .ok (.iload 9, 2) := by decide +kernel
theorem d_Maker_makeBlocks_60 : decode b_Maker_makeBlocks 60 = .ok (.iload 5, 2) := by decide +kernel
theorem d_Maker_makeBlocks_62 : decode b_Maker_makeBlocks 62 = .ok (.if_icmp .ge 43, 3) := by decide +kernel
theorem d_Maker_makeBlocks_65 : decode b_Maker_makeBlocks 65 = .ok (.aload_n 3, 1) := by decide +kernel
theorem d_Maker_makeBlocks_66 : decode b_Maker_makeBlocks 66 = .ok (.iload 6, 2) := by decide +kernel
theorem d_Maker_makeBlocks_68 : decode b_Maker_makeBlocks 68 = .ok (.aload_n 0, 1) := by decide +kernel
theorem d_Maker_makeBlocks_69 : decode b_Maker_makeBlocks 69 = .ok (.iload_n 1, 1) := by decide +kernel
theorem d_Maker_makeBlocks_70 : decode b_Maker_makeBlocks 70 = .ok (.iload_n 2, 1) := by decide +kernel
theorem d_Maker_makeBlocks_71 : decode b_Maker_makeBlocks 71 = .ok (.iload 9, 2) := by decide +kernel
theorem d_Maker_makeBlocks_73 : decode b_Maker_makeBlocks 73 = .ok (.iload 8, 2) := by decide +kernel
theorem d_Maker_makeBlocks_75 : decode b_Maker_makeBlocks 75 = .ok (.invokevirtual 95, 3) := by decide +kernel
theorem d_Maker_makeBlocks_78 : decode b_Maker_makeBlocks 78 = .ok (.iastore, 1) := by decide +kernel
theorem d_Maker_makeBlocks_79 : decode b_Maker_makeBlocks 79 = .ok (.iload 7, 2) := by decide +kernel
theorem d_Maker_makeBlocks_81 : decode b_Maker_makeBlocks 81 = .ok (.iconst (-1), 1) := by decide +kernel
theorem d_Maker_makeBlocks_82 : decode b_Maker_makeBlocks 82 = .ok (.if_icmp .ne 10, 3) := by decide +kernel
theorem d_Maker_makeBlocks_85 : decode b_Maker_makeBlocks 85 = .ok (.aload_n 3, 1) := by decide +kernel
theorem d_Maker_makeBlocks_86 : decode b_Maker_makeBlocks 86 = .ok (.iload 6, 2) := by decide +kernel
theorem d_Maker_makeBlocks_88 : decode b_Maker_makeBlocks 88 = .ok (.iaload, 1) := by decide +kernel
theorem d_Maker_makeBlocks_89 : decode b_Maker_makeBlocks 89 = .ok (.goto 5, 3) := by decide +kernel
end
section
theorem d_Maker_makeBlocks_92 : decode b_Maker_makeBlocks 92 = .ok (.iload 7, 2) := by decide +kernel
theorem d_Maker_makeBlocks_94 : decode b_Maker_makeBlocks 94 = .ok (.istore 7, 2) := by decide +kernel
theorem d_Maker_makeBlocks_96 : decode b_Maker_makeBlocks 96 = .ok (.iinc 6 1, 3) := by decide +kernel
theorem d_Maker_makeBlocks_99 : decode b_Maker_makeBlocks 99 = .ok (.iinc 9 1, 3) := by decide +kernel
theorem d_Maker_makeBlocks_102 : decode b_Maker_makeBlocks 102 = .ok (.goto (-44), 3) := by decide +kernel
theorem d_Maker_makeBlocks_105 : decode b_Maker_makeBlocks 105 = .ok (.iinc 8 1, 3) := by decide +kernel
theorem d_Maker_makeBlocks_108 : decode b_Maker_makeBlocks 108 = .ok (.goto (-60), 3) := by decide +kernel
theorem d_Maker_makeBlocks_111 : decode b_Maker_makeBlocks 111 = .ok (.iload 7, 2) := by decide +kernel
theorem d_Maker_makeBlocks_113 : decode b_Maker_makeBlocks 113 = .ok (.ireturn, 1) := by decide +kernel
abbrev b_Maker_fillBlocks : ByteArray := prog_4_method_8_code
def y_Maker_fillBlocks : MethodName := ⟨"MaskLayers$Maker", "fillBlocks", "(III)V"⟩
theorem d_Maker_fillBlocks_0 : decode b_Maker_fillBlocks 0 = .ok (.aload_n 0, 1) := by decide +kernel
theorem d_Maker_fillBlocks_1 : decode b_Maker_fillBlocks 1 = .ok (.getfield 9, 3) := by decide +kernel
theorem d_Maker_fillBlocks_4 : decode b_Maker_fillBlocks 4 = .ok (.getfield 85, 3) := by decide +kernel
theorem d_Maker_fillBlocks_7 : decode b_Maker_fillBlocks 7 = .ok (.iload_n 2, 1) := by decide +kernel
theorem d_Maker_fillBlocks_8 : decode b_Maker_fillBlocks 8 = .ok (.aaload, 1) := by decide +kernel
theorem d_Maker_fillBlocks_9 : decode b_Maker_fillBlocks 9 = .ok (.astore 4, 2) := by decide +kernel
theorem d_Maker_fillBlocks_11 : decode b_Maker_fillBlocks 11 = .ok (.aload_n 0, 1) := by decide +kernel
theorem d_Maker_fillBlocks_12 : decode b_Maker_fillBlocks 12 = .ok (.getfield 9, 3) := by decide +kernel
theorem d_Maker_fillBlocks_15 : decode b_Maker_fillBlocks 15 = .ok (.iload_n 1, 1) := by decide +kernel
theorem d_Maker_fillBlocks_16 : decode b_Maker_fillBlocks 16 = .ok (.iload_n 2, 1) := by decide +kernel
theorem d_Maker_fillBlocks_17 : decode b_Maker_fillBlocks 17 = .ok (.invokevirtual 89, 3) := by decide +kernel
theorem d_Maker_fillBlocks_20 : decode b_Maker_fillBlocks 20 = .ok (.istore 5, 2) := by decide +kernel
theorem d_Maker_fillBlocks_22 : decode b_Maker_fillBlocks 22 = .ok (.aload_n 0, 1) := by decide +kernel
theorem d_Maker_fillBlocks_23 : decode b_Maker_fillBlocks 23 = .ok (.getfield 9, 3) := by decide +kernel
theorem d_Maker_fillBlocks_26 : decode b_Maker_fillBlocks 26 = .ok (.getfield 92, 3) := by decide +kernel
theorem d_Maker_fillBlocks_29 : decode b_Maker_fillBlocks 29 = .ok (.iload_n 2, 1) := by decide +kernel
theorem d_Maker_fillBlocks_30 : decode b_Maker_fillBlocks 30 = .ok (.iaload, 1) := by decide +kernel
theorem d_Maker_fillBlocks_31 : decode b_Maker_fillBlocks 31 = .ok (.istore 6, 2) := by decide +kernel
theorem d_Maker_fillBlocks_33 : decode b_Maker_fillBlocks 33 = .ok (.aload_n 0, 1) := by decide +kernel
theorem d_Maker_fillBlocks_34 : decode b_Maker_fillBlocks 34 = .ok (.getfield 9, 3) := by decide +kernel
theorem d_Maker_fillBlocks_37 : decode b_Maker_fillBlocks 37 = .ok (.iload_n 1, 1) := by decide +kernel
theorem d_Maker_fillBlocks_38 : decode b_Maker_fillBlocks 38 = .ok (.invokevirtual 67, 3) := by decide +kernel
theorem d_Maker_fillBlocks_41 : decode b_Maker_fillBlocks 41 = .ok (.istore 7, 2) := by decide +kernel
theorem d_Maker_fillBlocks_43 : decode b_Maker_fillBlocks 43 = .ok (.iconst 0, 1) := by decide +kernel
theorem d_Maker_fillBlocks_44 : decode b_Maker_fillBlocks 44 = .ok (.istore 8, 2) := by decide +kernel
theorem d_Maker_fillBlocks_46 : decode b_Maker_fillBlocks 46 = .ok (.iload 8, 2) := by decide +kernel
theorem d_Maker_fillBlocks_48 : decode b_Maker_fillBlocks 48 = .ok (.iload 5, 2) := by decide +kernel
theorem d_Maker_fillBlocks_50 : decode b_Maker_fillBlocks 50 = .ok (.if_icmp .ge 100, 3) := by decide +kernel
theorem d_Maker_fillBlocks_53 : decode b_Maker_fillBlocks 53 = .ok (.iconst 0, 1) := by decide +kernel
theorem d_Maker_fillBlocks_54 : decode b_Maker_fillBlocks 54 = .ok (.istore 9, 2) := by decide +kernel
theorem d_Maker_fillBlocks_56 : decode b_Maker_fillBlocks 56 = .ok (.iload 9, 2) := by decide +kernel
theorem d_Maker_fillBlocks_58 : decode b_Maker_fillBlocks 58 = .ok (.iload 6, 2) := by decide +kernel
theorem d_Maker_fillBlocks_60 : decode b_Maker_fillBlocks 60 = .ok (.if_icmp .ge 84, 3) := by decide +kernel
theorem d_Maker_fillBlocks_63 : decode b_Maker_fillBlocks 63 = .ok (.aload 4, 2) := by decide +kernel
theorem d_Maker_fillBlocks_65 : decode b_Maker_fillBlocks 65 = .ok (.iload 7, 2) := by decide +kernel
theorem d_Maker_fillBlocks_67 : decode b_Maker_fillBlocks 67 = .ok (.iaload, 1) := by decide +kernel
theorem d_Maker_fillBlocks_68 : decode b_Maker_fillBlocks 68 = .ok (.iconst (-1), 1) := by decide +kernel
theorem d_Maker_fillBlocks_69 : decode b_Maker_fillBlocks 69 = .ok (.if_icmp .ne 66, 3) := by decide +kernel
theorem d_Maker_fillBlocks_72 : decode b_Maker_fillBlocks 72 = .ok (.iload 9, 2) := by decide +kernel
theorem d_Maker_fillBlocks_74 : decode b_Maker_fillBlocks 74 = .ok (.ifCond .le 13, 3) := by decide +kernel
theorem d_Maker_fillBlocks_77 : decode b_Maker_fillBlocks 77 = .ok (.aload 4, 2) := by decide +kernel
theorem d_Maker_fillBlocks_79 : decode b_Maker_fillBlocks 79 = .ok (.iload 7, 2) := by decide +kernel
theorem d_Maker_fillBlocks_81 : decode b_Maker_fillBlocks 81 = .ok (.iconst 1, 1) := by decide +kernel
theorem d_Maker_fillBlocks_82 : decode b_Maker_fillBlocks 82 = .ok (.isub, 1) := by decide +kernel
theorem d_Maker_fillBlocks_83 : decode b_Maker_fillBlocks 83 = .ok (.iaload, 1) := by decide +kernel
theorem d_Maker_fillBlocks_84 : decode b_Maker_fillBlocks 84 = .ok (.goto 4, 3) := by decide +kernel
theorem d_Maker_fillBlocks_87 : decode b_Maker_fillBlocks 87 = .ok (.iconst (-1), 1) := by decide +kernel
theorem d_Maker_fillBlocks_88 : decode b_Maker_fillBlocks 88 = .ok (.istore 10, 2) := by decide +kernel
theorem d_Maker_fillBlocks_90 : decode b_Maker_fillBlocks 90 = .ok (.iload 8, 2) := by decide +kernel
theorem d_Maker_fillBlocks_92 : decode b_Maker_fillBlocks 92 = .ok (.ifCond .le 14, 3) := by decide +kernel
theorem d_Maker_fillBlocks_95 : decode b_Maker_fillBlocks 95 = .ok (.aload 4, 2) := by decide +kernel
theorem d_Maker_fillBlocks_97 : decode b_Maker_fillBlocks 97 = .ok (.iload 7, 2) := by decide +kernel
theorem d_Maker_fillBlocks_99 : decode b_Maker_fillBlocks 99 = .ok (.iload 6, 2) := by decide +kernel
theorem d_Maker_fillBlocks_101 : decode b_Maker_fillBlocks 101 = .ok (.isub, 1) := by decide +kernel
theorem d_Maker_fillBlocks_102 : decode b_Maker_fillBlocks 102 = .ok (.iaload, 1) := by decide +kernel
theorem d_Maker_fillBlocks_103 : decode b_Maker_fillBlocks 103 = .ok (.goto 4, 3) := by decide +kernel
theorem d_Maker_fillBlocks_106 : decode b_Maker_fillBlocks 106 = .ok (.iconst (-1), 1) := by decide +kernel
theorem d_Maker_fillBlocks_107 : decode b_Maker_fillBlocks 107 = .ok (.istore 11, 2) := by decide +kernel
theorem d_Maker_fillBlocks_109 : decode b_Maker_fillBlocks 109 = .ok (.aload 4, 2) := by decide +kernel
theorem d_Maker_fillBlocks_111 : decode b_Maker_fillBlocks 111 = .ok (.iload 7, 2) := by decide +kernel
theorem d_Maker_fillBlocks_113 : decode b_Maker_fillBlocks 113 = .ok (.iload 10, 2) := by decide +kernel
theorem d_Maker_fillBlocks_115 : decode b_Maker_fillBlocks 115 = .ok (.iload 11, 2) := by decide +kernel
theorem d_Maker_fillBlocks_117 : decode b_Maker_fillBlocks 117 = .ok (.iload_n 3, 1) := by decide +kernel
theorem d_Maker_fillBlocks_118 : decode b_Maker_fillBlocks 118 = .ok (.invokestatic 131, 3) := by decide +kernel
theorem d_Maker_fillBlocks_121 : decode b_Maker_fillBlocks 121 = .ok (.iastore, 1) := by decide +kernel
theorem d_Maker_fillBlocks_122 : decode b_Maker_fillBlocks 122 = .ok (.aload_n 0, 1) := by decide +kernel
theorem d_Maker_fillBlocks_123 : decode b_Maker_fillBlocks 123 = .ok (.getfield 22, 3) := by decide +kernel
theorem d_Maker_fillBlocks_126 : decode b_Maker_fillBlocks 126 = .ok (.iload 7, 2) := by decide +kernel
theorem d_Maker_fillBlocks_128 : decode b_Maker_fillBlocks 128 = .ok (.dup2, 1) := by decide +kernel
theorem d_Maker_fillBlocks_129 : decode b_Maker_fillBlocks 129 = .ok (.iaload, 1) := by decide +kernel
theorem d_Maker_fillBlocks_130 : decode b_Maker_fillBlocks 130 = .ok (.iconst 1, 1) := by decide +kernel
theorem d_Maker_fillBlocks_131 : decode b_Maker_fillBlocks 131 = .ok (.iload_n 2, 1) := by decide +kernel
theorem d_Maker_fillBlocks_132 : decode b_Maker_fillBlocks 132 = .ok (.ishl, 1) := by decide +kernel
theorem d_Maker_fillBlocks_133 : decode b_Maker_fillBlocks 133 = .ok (.ior, 1) := by decide +kernel
theorem d_Maker_fillBlocks_134 : decode b_Maker_fillBlocks 134 = .ok (.iastore, 1) := by decide +kernel
theorem d_Maker_fillBlocks_135 : decode b_Maker_fillBlocks 135 = .ok (.iinc 7 1, 3) := by decide +kernel
theorem d_Maker_fillBlocks_138 : decode b_Maker_fillBlocks 138 = .ok (.iinc 9 1, 3) := by decide +kernel
theorem d_Maker_fillBlocks_141 : decode b_Maker_fillBlocks 141 = .ok (.goto (-85), 3) := by decide +kernel
theorem d_Maker_fillBlocks_144 : decode b_Maker_fillBlocks 144 = .ok (.iinc 8 1, 3) := by decide +kernel
theorem d_Maker_fillBlocks_147 : decode b_Maker_fillBlocks 147 = .ok (.goto (-101), 3) := by decide +kernel
theorem d_Maker_fillBlocks_150 : decode b_Maker_fillBlocks 150 = .ok (.return_, 1) := by decide +kernel
abbrev b_Maker_makeRest : ByteArray := prog_4_method_10_code
def y_Maker_makeRest : MethodName := ⟨"MaskLayers$Maker", "makeRest", "(I)Z"⟩
theorem d_Maker_makeRest_0 : decode b_Maker_makeRest 0 = .ok (.iconst 0, 1) := by decide +kernel
theorem d_Maker_makeRest_1 : decode b_Maker_makeRest 1 = .ok (.istore_n 2, 1) := by decide +kernel
theorem d_Maker_makeRest_2 : decode b_Maker_makeRest 2 = .ok (.aload_n 0, 1) := by decide +kernel
theorem d_Maker_makeRest_3 : decode b_Maker_makeRest 3 = .ok (.getfield 9, 3) := by decide +kernel
theorem d_Maker_makeRest_6 : decode b_Maker_makeRest 6 = .ok (.iload_n 1, 1) := by decide +kernel
theorem d_Maker_makeRest_7 : decode b_Maker_makeRest 7 = .ok (.invokevirtual 67, 3) := by decide +kernel
theorem d_Maker_makeRest_10 : decode b_Maker_makeRest 10 = .ok (.istore_n 3, 1) := by decide +kernel
theorem d_Maker_makeRest_11 : decode b_Maker_makeRest 11 = .ok (.aload_n 0, 1) := by decide +kernel
theorem d_Maker_makeRest_12 : decode b_Maker_makeRest 12 = .ok (.getfield 9, 3) := by decide +kernel
theorem d_Maker_makeRest_15 : decode b_Maker_makeRest 15 = .ok (.iload_n 1, 1) := by decide +kernel
theorem d_Maker_makeRest_16 : decode b_Maker_makeRest 16 = .ok (.invokevirtual 105, 3) := by decide +kernel
theorem d_Maker_makeRest_19 : decode b_Maker_makeRest 19 = .ok (.istore 4, 2) := by decide +kernel
theorem d_Maker_makeRest_21 : decode b_Maker_makeRest 21 = .ok (.aload_n 0, 1) := by decide +kernel
theorem d_Maker_makeRest_22 : decode b_Maker_makeRest 22 = .ok (.getfield 9, 3) := by decide +kernel
theorem d_Maker_makeRest_25 : decode b_Maker_makeRest 25 = .ok (.iload_n 1, 1) := by decide +kernel
theorem d_Maker_makeRest_26 : decode b_Maker_makeRest 26 = .ok (.invokevirtual 102, 3) := by decide +kernel
theorem d_Maker_makeRest_29 : decode b_Maker_makeRest 29 = .ok (.istore 5, 2) := by decide +kernel
theorem d_Maker_makeRest_31 : decode b_Maker_makeRest 31 = .ok (.iload 5, 2) := by decide +kernel
theorem d_Maker_makeRest_33 : decode b_Maker_makeRest 33 = .ok (.iload 4, 2) := by decide +kernel
theorem d_Maker_makeRest_35 : decode b_Maker_makeRest 35 = .ok (.if_icmp .ge 117, 3) := by decide +kernel
theorem d_Maker_makeRest_38 : decode b_Maker_makeRest 38 = .ok (.iconst 0, 1) := by decide +kernel
theorem d_Maker_makeRest_39 : decode b_Maker_makeRest 39 = .ok (.istore 6, 2) := by decide +kernel
theorem d_Maker_makeRest_41 : decode b_Maker_makeRest 41 = .ok (.iload 6, 2) := by decide +kernel
theorem d_Maker_makeRest_43 : decode b_Maker_makeRest 43 = .ok (.aload_n 0, 1) := by decide +kernel
theorem d_Maker_makeRest_44 : decode b_Maker_makeRest 44 = .ok (.getfield 9, 3) := by decide +kernel
theorem d_Maker_makeRest_47 : decode b_Maker_makeRest 47 = .ok (.getfield 113, 3) := by decide +kernel
theorem d_Maker_makeRest_50 : decode b_Maker_makeRest 50 = .ok (.if_icmp .ge 96, 3) := by decide +kernel
theorem d_Maker_makeRest_53 : decode b_Maker_makeRest 53 = .ok (.aload_n 0, 1) := by decide +kernel
theorem d_Maker_makeRest_54 : decode b_Maker_makeRest 54 = .ok (.getfield 19, 3) := by decide +kernel
theorem d_Maker_makeRest_57 : decode b_Maker_makeRest 57 = .ok (.iload_n 3, 1) := by decide +kernel
theorem d_Maker_makeRest_58 : decode b_Maker_makeRest 58 = .ok (.iaload, 1) := by decide +kernel
theorem d_Maker_makeRest_59 : decode b_Maker_makeRest 59 = .ok (.iconst 1, 1) := by decide +kernel
theorem d_Maker_makeRest_60 : decode b_Maker_makeRest 60 = .ok (.if_icmp .ne 7, 3) := by decide +kernel
theorem d_Maker_makeRest_63 : decode b_Maker_makeRest 63 = .ok (.iconst 2, 1) := by decide +kernel
theorem d_Maker_makeRest_64 : decode b_Maker_makeRest 64 = .ok (.goto 4, 3) := by decide +kernel
theorem d_Maker_makeRest_67 : decode b_Maker_makeRest 67 = .ok (.iconst 0, 1) := by decide +kernel
theorem d_Maker_makeRest_68 : decode b_Maker_makeRest 68 = .ok (.istore 7, 2) := by decide +kernel
theorem d_Maker_makeRest_70 : decode b_Maker_makeRest 70 = .ok (.aload_n 0, 1) := by decide +kernel
theorem d_Maker_makeRest_71 : decode b_Maker_makeRest 71 = .ok (.getfield 9, 3) := by decide +kernel
theorem d_Maker_makeRest_74 : decode b_Maker_makeRest 74 = .ok (.getfield 85, 3) := by decide +kernel
theorem d_Maker_makeRest_77 : decode b_Maker_makeRest 77 = .ok (.iload 7, 2) := by decide +kernel
theorem d_Maker_makeRest_79 : decode b_Maker_makeRest 79 = .ok (.aaload, 1) := by decide +kernel
theorem d_Maker_makeRest_80 : decode b_Maker_makeRest 80 = .ok (.aload_n 0, 1) := by decide +kernel
theorem d_Maker_makeRest_81 : decode b_Maker_makeRest 81 = .ok (.getfield 9, 3) := by decide +kernel
theorem d_Maker_makeRest_84 : decode b_Maker_makeRest 84 = .ok (.iload 7, 2) := by decide +kernel
theorem d_Maker_makeRest_86 : decode b_Maker_makeRest 86 = .ok (.iload 6, 2) := by decide +kernel
theorem d_Maker_makeRest_88 : decode b_Maker_makeRest 88 = .ok (.iload 5, 2) := by decide +kernel
theorem d_Maker_makeRest_90 : decode b_Maker_makeRest 90 = .ok (.invokevirtual 56, 3) := by decide +kernel
theorem d_Maker_makeRest_93 : decode b_Maker_makeRest 93 = .ok (.iaload, 1) := by decide +kernel
theorem d_Maker_makeRest_94 : decode b_Maker_makeRest 94 = .ok (.istore 8, 2) := by decide +kernel
theorem d_Maker_makeRest_96 : decode b_Maker_makeRest 96 = .ok (.aload_n 0, 1) := by decide +kernel
theorem d_Maker_makeRest_97 : decode b_Maker_makeRest 97 = .ok (.getfield 15, 3) := by decide +kernel
theorem d_Maker_makeRest_100 : decode b_Maker_makeRest 100 = .ok (.iload_n 3, 1) := by decide +kernel
theorem d_Maker_makeRest_101 : decode b_Maker_makeRest 101 = .ok (.iaload, 1) := by decide +kernel
theorem d_Maker_makeRest_102 : decode b_Maker_makeRest 102 = .ok (.iload 8, 2) := by decide +kernel
theorem d_Maker_makeRest_104 : decode b_Maker_makeRest 104 = .ok (.invokestatic 137, 3) := by decide +kernel
theorem d_Maker_makeRest_107 : decode b_Maker_makeRest 107 = .ok (.istore 9, 2) := by decide +kernel
theorem d_Maker_makeRest_109 : decode b_Maker_makeRest 109 = .ok (.aload_n 0, 1) := by decide +kernel
theorem d_Maker_makeRest_110 : decode b_Maker_makeRest 110 = .ok (.getfield 9, 3) := by decide +kernel
theorem d_Maker_makeRest_113 : decode b_Maker_makeRest 113 = .ok (.getfield 85, 3) := by decide +kernel
theorem d_Maker_makeRest_116 : decode b_Maker_makeRest 116 = .ok (.iconst 3, 1) := by decide +kernel
theorem d_Maker_makeRest_117 : decode b_Maker_makeRest 117 = .ok (.aaload, 1) := by decide +kernel
theorem d_Maker_makeRest_118 : decode b_Maker_makeRest 118 = .ok (.iload_n 3, 1) := by decide +kernel
theorem d_Maker_makeRest_119 : decode b_Maker_makeRest 119 = .ok (.iload 9, 2) := by decide +kernel
theorem d_Maker_makeRest_121 : decode b_Maker_makeRest 121 = .ok (.iastore, 1) := by decide +kernel
theorem d_Maker_makeRest_122 : decode b_Maker_makeRest 122 = .ok (.iload_n 2, 1) := by decide +kernel
theorem d_Maker_makeRest_123 : decode b_Maker_makeRest 123 = .ok (.ifCond .ne 8, 3) := by decide +kernel
theorem d_Maker_makeRest_126 : decode b_Maker_makeRest 126 = .ok (.iload 9, 2) := by decide +kernel
theorem d_Maker_makeRest_128 : decode b_Maker_makeRest 128 = .ok (.ifCond .eq 7, 3) := by decide +kernel
theorem d_Maker_makeRest_131 : decode b_Maker_makeRest 131 = .ok (.iconst 1, 1) := by decide +kernel
theorem d_Maker_makeRest_132 : decode b_Maker_makeRest 132 = .ok (.goto 4, 3) := by decide +kernel
theorem d_Maker_makeRest_135 : decode b_Maker_makeRest 135 = .ok (.iconst 0, 1) := by decide +kernel
theorem d_Maker_makeRest_136 : decode b_Maker_makeRest 136 = .ok (.istore_n 2, 1) := by decide +kernel
theorem d_Maker_makeRest_137 : decode b_Maker_makeRest 137 = .ok (.iinc 3 1, 3) := by decide +kernel
theorem d_Maker_makeRest_140 : decode b_Maker_makeRest 140 = .ok (.iinc 6 1, 3) := by decide +kernel
theorem d_Maker_makeRest_143 : decode b_Maker_makeRest 143 = .ok (.goto (-102), 3) := by decide +kernel
theorem d_Maker_makeRest_146 : decode b_Maker_makeRest 146 = .ok (.iinc 5 1, 3) := by decide +kernel
theorem d_Maker_makeRest_149 : decode b_Maker_makeRest 149 = .ok (.goto (-118), 3) := by decide +kernel
theorem d_Maker_makeRest_152 : decode b_Maker_makeRest 152 = .ok (.iload_n 2, 1) := by decide +kernel
theorem d_Maker_makeRest_153 : decode b_Maker_makeRest 153 = .ok (.ireturn, 1) := by decide +kernel
abbrev b_Maker_makeStripe : ByteArray := prog_4_method_4_code
def y_Maker_makeStripe : MethodName := ⟨"MaskLayers$Maker", "makeStripe", "(IZ)V"⟩
theorem d_Maker_makeStripe_0 : decode b_Maker_makeStripe 0 = .ok (.aload_n 0, 1) := by decide +kernel
theorem d_Maker_makeStripe_1 : decode b_Maker_makeStripe 1 = .ok (.iload_n 1, 1) := by decide +kernel
theorem d_Maker_makeStripe_2 : decode b_Maker_makeStripe 2 = .ok (.invokevirtual 60, 3) := by decide +kernel
theorem d_Maker_makeStripe_5 : decode b_Maker_makeStripe 5 = .ok (.istore_n 3, 1) := by decide +kernel
theorem d_Maker_makeStripe_6 : decode b_Maker_makeStripe 6 = .ok (.iload_n 3, 1) := by decide +kernel
theorem d_Maker_makeStripe_7 : decode b_Maker_makeStripe 7 = .ok (.aload_n 0, 1) := by decide +kernel
theorem d_Maker_makeStripe_8 : decode b_Maker_makeStripe 8 = .ok (.getfield 9, 3) := by decide +kernel
theorem d_Maker_makeStripe_11 : decode b_Maker_makeStripe 11 = .ok (.iload_n 1, 1) := by decide +kernel
theorem d_Maker_makeStripe_12 : decode b_Maker_makeStripe 12 = .ok (.iconst 1, 1) := by decide +kernel
theorem d_Maker_makeStripe_13 : decode b_Maker_makeStripe 13 = .ok (.invokevirtual 63, 3) := by decide +kernel
theorem d_Maker_makeStripe_16 : decode b_Maker_makeStripe 16 = .ok (.aload_n 0, 1) := by decide +kernel
theorem d_Maker_makeStripe_17 : decode b_Maker_makeStripe 17 = .ok (.getfield 9, 3) := by decide +kernel
theorem d_Maker_makeStripe_20 : decode b_Maker_makeStripe 20 = .ok (.iload_n 1, 1) := by decide +kernel
theorem d_Maker_makeStripe_21 : decode b_Maker_makeStripe 21 = .ok (.invokevirtual 67, 3) := by decide +kernel
theorem d_Maker_makeStripe_24 : decode b_Maker_makeStripe 24 = .ok (.isub, 1) := by decide +kernel
theorem d_Maker_makeStripe_25 : decode b_Maker_makeStripe 25 = .ok (.if_icmp .ge 24, 3) := by decide +kernel
theorem d_Maker_makeStripe_28 : decode b_Maker_makeStripe 28 = .ok (.aload_n 0, 1) := by decide +kernel
theorem d_Maker_makeStripe_29 : decode b_Maker_makeStripe 29 = .ok (.iload_n 1, 1) := by decide +kernel
theorem d_Maker_makeStripe_30 : decode b_Maker_makeStripe 30 = .ok (.iconst 0, 1) := by decide +kernel
theorem d_Maker_makeStripe_31 : decode b_Maker_makeStripe 31 = .ok (.aload_n 0, 1) := by decide +kernel
theorem d_Maker_makeStripe_32 : decode b_Maker_makeStripe 32 = .ok (.iload_n 1, 1) := by decide +kernel
theorem d_Maker_makeStripe_33 : decode b_Maker_makeStripe 33 = .ok (.iconst 0, 1) := by decide +kernel
theorem d_Maker_makeStripe_34 : decode b_Maker_makeStripe 34 = .ok (.invokevirtual 70, 3) := by decide +kernel
theorem d_Maker_makeStripe_37 : decode b_Maker_makeStripe 37 = .ok (.invokevirtual 73, 3) := by decide +kernel
theorem d_Maker_makeStripe_40 : decode b_Maker_makeStripe 40 = .ok (.aload_n 0, 1) := by decide +kernel
theorem d_Maker_makeStripe_41 : decode b_Maker_makeStripe 41 = .ok (.getfield 9, 3) := by decide +kernel
theorem d_Maker_makeStripe_44 : decode b_Maker_makeStripe 44 = .ok (.iload_n 1, 1) := by decide +kernel
theorem d_Maker_makeStripe_45 : decode b_Maker_makeStripe 45 = .ok (.iconst 0, 1) := by decide +kernel
theorem d_Maker_makeStripe_46 : decode b_Maker_makeStripe 46 = .ok (.invokevirtual 77, 3) := by decide +kernel
theorem d_Maker_makeStripe_49 : decode b_Maker_makeStripe 49 = .ok (.iload_n 3, 1) := by decide +kernel
theorem d_Maker_makeStripe_50 : decode b_Maker_makeStripe 50 = .ok (.ifCond .le 33, 3) := by decide +kernel
theorem d_Maker_makeStripe_53 : decode b_Maker_makeStripe 53 = .ok (.aload_n 0, 1) := by decide +kernel
theorem d_Maker_makeStripe_54 : decode b_Maker_makeStripe 54 = .ok (.getfield 9, 3) := by decide +kernel
theorem d_Maker_makeStripe_57 : decode b_Maker_makeStripe 57 = .ok (.iload_n 1, 1) := by decide +kernel
theorem d_Maker_makeStripe_58 : decode b_Maker_makeStripe 58 = .ok (.iconst 1, 1) := by decide +kernel
theorem d_Maker_makeStripe_59 : decode b_Maker_makeStripe 59 = .ok (.invokevirtual 77, 3) := by decide +kernel
theorem d_Maker_makeStripe_62 : decode b_Maker_makeStripe 62 = .ok (.aload_n 0, 1) := by decide +kernel
theorem d_Maker_makeStripe_63 : decode b_Maker_makeStripe 63 = .ok (.iload_n 1, 1) := by decide +kernel
theorem d_Maker_makeStripe_64 : decode b_Maker_makeStripe 64 = .ok (.iconst 2, 1) := by decide +kernel
theorem d_Maker_makeStripe_65 : decode b_Maker_makeStripe 65 = .ok (.aload_n 0, 1) := by decide +kernel
theorem d_Maker_makeStripe_66 : decode b_Maker_makeStripe 66 = .ok (.iload_n 1, 1) := by decide +kernel
theorem d_Maker_makeStripe_67 : decode b_Maker_makeStripe 67 = .ok (.iconst 2, 1) := by decide +kernel
theorem d_Maker_makeStripe_68 : decode b_Maker_makeStripe 68 = .ok (.invokevirtual 70, 3) := by decide +kernel
theorem d_Maker_makeStripe_71 : decode b_Maker_makeStripe 71 = .ok (.invokevirtual 73, 3) := by decide +kernel
theorem d_Maker_makeStripe_74 : decode b_Maker_makeStripe 74 = .ok (.aload_n 0, 1) := by decide +kernel
theorem d_Maker_makeStripe_75 : decode b_Maker_makeStripe 75 = .ok (.getfield 9, 3) := by decide +kernel
theorem d_Maker_makeStripe_78 : decode b_Maker_makeStripe 78 = .ok (.iload_n 1, 1) := by decide +kernel
theorem d_Maker_makeStripe_79 : decode b_Maker_makeStripe 79 = .ok (.iconst 2, 1) := by decide +kernel
theorem d_Maker_makeStripe_80 : decode b_Maker_makeStripe 80 = .ok (.invokevirtual 77, 3) := by decide +kernel
theorem d_Maker_makeStripe_83 : decode b_Maker_makeStripe 83 = .ok (.iload_n 2, 1) := by decide +kernel
theorem d_Maker_makeStripe_84 : decode b_Maker_makeStripe 84 = .ok (.ifCond .eq 20, 3) := by decide +kernel
theorem d_Maker_makeStripe_87 : decode b_Maker_makeStripe 87 = .ok (.aload_n 0, 1) := by decide +kernel
theorem d_Maker_makeStripe_88 : decode b_Maker_makeStripe 88 = .ok (.iload_n 1, 1) := by decide +kernel
theorem d_Maker_makeStripe_89 : decode b_Maker_makeStripe 89 = .ok (.invokevirtual 81, 3) := by decide +kernel
theorem d_Maker_makeStripe_92 : decode b_Maker_makeStripe 92 = .ok (.ifCond .eq 12, 3) := by decide +kernel
theorem d_Maker_makeStripe_95 : decode b_Maker_makeStripe 95 = .ok (.aload_n 0, 1) := by decide +kernel
theorem d_Maker_makeStripe_96 : decode b_Maker_makeStripe 96 = .ok (.getfield 9, 3) := by decide +kernel
theorem d_Maker_makeStripe_99 : decode b_Maker_makeStripe 99 = .ok (.iload_n 1, 1) := by decide +kernel
theorem d_Maker_makeStripe_100 : decode b_Maker_makeStripe 100 = .ok (.iconst 3, 1) := by decide +kernel
theorem d_Maker_makeStripe_101 : decode b_Maker_makeStripe 101 = .ok (.invokevirtual 77, 3) := by decide +kernel
theorem d_Maker_makeStripe_104 : decode b_Maker_makeStripe 104 = .ok (.return_, 1) := by decide +kernel
abbrev b_Maker_makeAll : ByteArray := prog_4_method_2_code
def y_Maker_makeAll : MethodName := ⟨"MaskLayers$Maker", "makeAll", "(Z)I"⟩
theorem d_Maker_makeAll_0 : decode b_Maker_makeAll 0 = .ok (.aload_n 0, 1) := by decide +kernel
theorem d_Maker_makeAll_1 : decode b_Maker_makeAll 1 = .ok (.getfield 9, 3) := by decide +kernel
theorem d_Maker_makeAll_4 : decode b_Maker_makeAll 4 = .ok (.invokevirtual 25, 3) := by decide +kernel
theorem d_Maker_makeAll_7 : decode b_Maker_makeAll 7 = .ok (.aload_n 0, 1) := by decide +kernel
theorem d_Maker_makeAll_8 : decode b_Maker_makeAll 8 = .ok (.getfield 22, 3) := by decide +kernel
theorem d_Maker_makeAll_11 : decode b_Maker_makeAll 11 = .ok (.iconst 0, 1) := by decide +kernel
theorem d_Maker_makeAll_12 : decode b_Maker_makeAll 12 = .ok (.invokestatic 30, 3) := by decide +kernel
theorem d_Maker_makeAll_15 : decode b_Maker_makeAll 15 = .ok (.iconst 0, 1) := by decide +kernel
theorem d_Maker_makeAll_16 : decode b_Maker_makeAll 16 = .ok (.istore_n 2, 1) := by decide +kernel
theorem d_Maker_makeAll_17 : decode b_Maker_makeAll 17 = .ok (.iload_n 2, 1) := by decide +kernel
theorem d_Maker_makeAll_18 : decode b_Maker_makeAll 18 = .ok (.aload_n 0, 1) := by decide +kernel
theorem d_Maker_makeAll_19 : decode b_Maker_makeAll 19 = .ok (.getfield 9, 3) := by decide +kernel
theorem d_Maker_makeAll_22 : decode b_Maker_makeAll 22 = .ok (.invokevirtual 36, 3) := by decide +kernel
theorem d_Maker_makeAll_25 : decode b_Maker_makeAll 25 = .ok (.if_icmp .ge 15, 3) := by decide +kernel
theorem d_Maker_makeAll_28 : decode b_Maker_makeAll 28 = .ok (.aload_n 0, 1) := by decide +kernel
theorem d_Maker_makeAll_29 : decode b_Maker_makeAll 29 = .ok (.iload_n 2, 1) := by decide +kernel
theorem d_Maker_makeAll_30 : decode b_Maker_makeAll 30 = .ok (.iload_n 1, 1) := by decide +kernel
theorem d_Maker_makeAll_31 : decode b_Maker_makeAll 31 = .ok (.invokevirtual 40, 3) := by decide +kernel
theorem d_Maker_makeAll_34 : decode b_Maker_makeAll 34 = .ok (.iinc 2 1, 3) := by decide +kernel
theorem d_Maker_makeAll_37 : decode b_Maker_makeAll 37 = .ok (.goto (-20), 3) := by decide +kernel
theorem d_Maker_makeAll_40 : decode b_Maker_makeAll 40 = .ok (.aload_n 0, 1) := by decide +kernel
theorem d_Maker_makeAll_41 : decode b_Maker_makeAll 41 = .ok (.getfield 9, 3) := by decide +kernel
theorem d_Maker_makeAll_44 : decode b_Maker_makeAll 44 = .ok (.getfield 44, 3) := by decide +kernel
theorem d_Maker_makeAll_47 : decode b_Maker_makeAll 47 = .ok (.ireturn, 1) := by decide +kernel
abbrev b_Writer_runEnds : ByteArray := prog_6_method_6_code
def y_Writer_runEnds : MethodName := ⟨"MaskLayers$Writer", "runEnds", "([IIII)Z"⟩
theorem d_Writer_runEnds_0 : decode b_Writer_runEnds 0 = .ok (.iload_n 1, 1) := by decide +kernel
theorem d_Writer_runEnds_1 : decode b_Writer_runEnds 1 = .ok (.iconst 1, 1) := by decide +kernel
theorem d_Writer_runEnds_2 : decode b_Writer_runEnds 2 = .ok (.iadd, 1) := by decide +kernel
theorem d_Writer_runEnds_3 : decode b_Writer_runEnds 3 = .ok (.iload_n 2, 1) := by decide +kernel
theorem d_Writer_runEnds_4 : decode b_Writer_runEnds 4 = .ok (.if_icmp .ge 21, 3) := by decide +kernel
theorem d_Writer_runEnds_7 : decode b_Writer_runEnds 7 = .ok (.iload_n 3, 1) := by decide +kernel
theorem d_Writer_runEnds_8 : decode b_Writer_runEnds 8 = .ok (.sipush 255, 3) := by decide +kernel
theorem d_Writer_runEnds_11 : decode b_Writer_runEnds 11 = .ok (.if_icmp .ge 14, 3) := by decide +kernel
theorem d_Writer_runEnds_14 : decode b_Writer_runEnds 14 = .ok (.aload_n 0, 1) := by decide +kernel
theorem d_Writer_runEnds_15 : decode b_Writer_runEnds 15 = .ok (.iload_n 1, 1) := by decide +kernel
theorem d_Writer_runEnds_16 : decode b_Writer_runEnds 16 = .ok (.iconst 1, 1) := by decide +kernel
theorem d_Writer_runEnds_17 : decode b_Writer_runEnds 17 = .ok (.iadd, 1) := by decide +kernel
theorem d_Writer_runEnds_18 : decode b_Writer_runEnds 18 = .ok (.iaload, 1) := by decide +kernel
theorem d_Writer_runEnds_19 : decode b_Writer_runEnds 19 = .ok (.aload_n 0, 1) := by decide +kernel
theorem d_Writer_runEnds_20 : decode b_Writer_runEnds 20 = .ok (.iload_n 1, 1) := by decide +kernel
theorem d_Writer_runEnds_21 : decode b_Writer_runEnds 21 = .ok (.iaload, 1) := by decide +kernel
theorem d_Writer_runEnds_22 : decode b_Writer_runEnds 22 = .ok (.if_icmp .eq 7, 3) := by decide +kernel
theorem d_Writer_runEnds_25 : decode b_Writer_runEnds 25 = .ok (.iconst 1, 1) := by decide +kernel
theorem d_Writer_runEnds_26 : decode b_Writer_runEnds 26 = .ok (.goto 4, 3) := by decide +kernel
theorem d_Writer_runEnds_29 : decode b_Writer_runEnds 29 = .ok (.iconst 0, 1) := by decide +kernel
theorem d_Writer_runEnds_30 : decode b_Writer_runEnds 30 = .ok (.ireturn, 1) := by decide +kernel
abbrev b_Writer_countRuns : ByteArray := prog_6_method_5_code
def y_Writer_countRuns : MethodName := ⟨"MaskLayers$Writer", "countRuns", "([III)I"⟩
theorem d_Writer_countRuns_0 : decode b_Writer_countRuns 0 = .ok (.iconst 0, 1) := by decide +kernel
theorem d_Writer_countRuns_1 : decode b_Writer_countRuns 1 = .ok (.istore_n 3, 1) := by decide +kernel
theorem d_Writer_countRuns_2 : decode b_Writer_countRuns 2 = .ok (.iconst 0, 1) := by decide +kernel
theorem d_Writer_countRuns_3 : decode b_Writer_countRuns 3 = .ok (.istore 4, 2) := by decide +kernel
theorem d_Writer_countRuns_5 : decode b_Writer_countRuns 5 = .ok (.iload_n 1, 1) := by decide +kernel
theorem d_Writer_countRuns_6 : decode b_Writer_countRuns 6 = .ok (.istore 5, 2) := by decide +kernel
theorem d_Writer_countRuns_8 : decode b_Writer_countRuns 8 = .ok (.iload 5, 2) := by decide +kernel
theorem d_Writer_countRuns_10 : decode b_Writer_countRuns 10 = .ok (.iload_n 2, 1) := by decide +kernel
theorem d_Writer_countRuns_11 : decode b_Writer_countRuns 11 = .ok (.if_icmp .ge 30, 3) := by decide +kernel
theorem d_Writer_countRuns_14 : decode b_Writer_countRuns 14 = .ok (.iinc 4 1, 3) := by decide +kernel
theorem d_Writer_countRuns_17 : decode b_Writer_countRuns 17 = .ok (.aload_n 0, 1) := by decide +kernel
theorem d_Writer_countRuns_18 : decode b_Writer_countRuns 18 = .ok (.iload 5, 2) := by decide +kernel
theorem d_Writer_countRuns_20 : decode b_Writer_countRuns 20 = .ok (.iload_n 2, 1) := by decide +kernel
theorem d_Writer_countRuns_21 : decode b_Writer_countRuns 21 = .ok (.iload 4, 2) := by decide +kernel
theorem d_Writer_countRuns_23 : decode b_Writer_countRuns 23 = .ok (.invokestatic 96, 3) := by decide +kernel
theorem d_Writer_countRuns_26 : decode b_Writer_countRuns 26 = .ok (.ifCond .eq 9, 3) := by decide +kernel
theorem d_Writer_countRuns_29 : decode b_Writer_countRuns 29 = .ok (.iinc 3 1, 3) := by decide +kernel
theorem d_Writer_countRuns_32 : decode b_Writer_countRuns 32 = .ok (.iconst 0, 1) := by decide +kernel
theorem d_Writer_countRuns_33 : decode b_Writer_countRuns 33 = .ok (.istore 4, 2) := by decide +kernel
theorem d_Writer_countRuns_35 : decode b_Writer_countRuns 35 = .ok (.iinc 5 1, 3) := by decide +kernel
theorem d_Writer_countRuns_38 : decode b_Writer_countRuns 38 = .ok (.goto (-30), 3) := by decide +kernel
theorem d_Writer_countRuns_41 : decode b_Writer_countRuns 41 = .ok (.iload_n 3, 1) := by decide +kernel
theorem d_Writer_countRuns_42 : decode b_Writer_countRuns 42 = .ok (.ireturn, 1) := by decide +kernel
abbrev b_Reader_mayEnd : ByteArray := prog_5_method_7_code
def y_Reader_mayEnd : MethodName := ⟨"MaskLayers$Reader", "mayEnd", "(I)Z"⟩
theorem d_Reader_mayEnd_0 : decode b_Reader_mayEnd 0 = .ok (.aload_n 0, 1) := by decide +kernel
theorem d_Reader_mayEnd_1 : decode b_Reader_mayEnd 1 = .ok (.getfield 15, 3) := by decide +kernel
theorem d_Reader_mayEnd_4 : decode b_Reader_mayEnd 4 = .ok (.iload_n 1, 1) := by decide +kernel
theorem d_Reader_mayEnd_5 : decode b_Reader_mayEnd 5 = .ok (.iconst 2, 1) := by decide +kernel
theorem d_Reader_mayEnd_6 : decode b_Reader_mayEnd 6 = .ok (.invokevirtual 83, 3) := by decide +kernel
theorem d_Reader_mayEnd_9 : decode b_Reader_mayEnd 9 = .ok (.ifCond .ne 27, 3) := by decide +kernel
theorem d_Reader_mayEnd_12 : decode b_Reader_mayEnd 12 = .ok (.aload_n 0, 1) := by decide +kernel
theorem d_Reader_mayEnd_13 : decode b_Reader_mayEnd 13 = .ok (.getfield 15, 3) := by decide +kernel
theorem d_Reader_mayEnd_16 : decode b_Reader_mayEnd 16 = .ok (.iload_n 1, 1) := by decide +kernel
theorem d_Reader_mayEnd_17 : decode b_Reader_mayEnd 17 = .ok (.iconst 0, 1) := by decide +kernel
theorem d_Reader_mayEnd_18 : decode b_Reader_mayEnd 18 = .ok (.invokevirtual 83, 3) := by decide +kernel
theorem d_Reader_mayEnd_21 : decode b_Reader_mayEnd 21 = .ok (.ifCond .eq 19, 3) := by decide +kernel
theorem d_Reader_mayEnd_24 : decode b_Reader_mayEnd 24 = .ok (.aload_n 0, 1) := by decide +kernel
theorem d_Reader_mayEnd_25 : decode b_Reader_mayEnd 25 = .ok (.getfield 15, 3) := by decide +kernel
theorem d_Reader_mayEnd_28 : decode b_Reader_mayEnd 28 = .ok (.iload_n 1, 1) := by decide +kernel
theorem d_Reader_mayEnd_29 : decode b_Reader_mayEnd 29 = .ok (.iconst 1, 1) := by decide +kernel
theorem d_Reader_mayEnd_30 : decode b_Reader_mayEnd 30 = .ok (.invokevirtual 83, 3) := by decide +kernel
theorem d_Reader_mayEnd_33 : decode b_Reader_mayEnd 33 = .ok (.ifCond .ne 7, 3) := by decide +kernel
theorem d_Reader_mayEnd_36 : decode b_Reader_mayEnd 36 = .ok (.iconst 1, 1) := by decide +kernel
theorem d_Reader_mayEnd_37 : decode b_Reader_mayEnd 37 = .ok (.goto 4, 3) := by decide +kernel
theorem d_Reader_mayEnd_40 : decode b_Reader_mayEnd 40 = .ok (.iconst 0, 1) := by decide +kernel
theorem d_Reader_mayEnd_41 : decode b_Reader_mayEnd 41 = .ok (.ireturn, 1) := by decide +kernel
abbrev b_Reader_mayFollow : ByteArray := prog_5_method_8_code
def y_Reader_mayFollow : MethodName := ⟨"MaskLayers$Reader", "mayFollow", "(II)Z"⟩
theorem d_Reader_mayFollow_0 : decode b_Reader_mayFollow 0 = .ok (.iload_n 2, 1) := by decide +kernel
theorem d_Reader_mayFollow_1 : decode b_Reader_mayFollow 1 = .ok (.iconst 2, 1) := by decide +kernel
theorem d_Reader_mayFollow_2 : decode b_Reader_mayFollow 2 = .ok (.if_icmp .ne 13, 3) := by decide +kernel
theorem d_Reader_mayFollow_5 : decode b_Reader_mayFollow 5 = .ok (.aload_n 0, 1) := by decide +kernel
theorem d_Reader_mayFollow_6 : decode b_Reader_mayFollow 6 = .ok (.getfield 15, 3) := by decide +kernel
theorem d_Reader_mayFollow_9 : decode b_Reader_mayFollow 9 = .ok (.iload_n 1, 1) := by decide +kernel
theorem d_Reader_mayFollow_10 : decode b_Reader_mayFollow 10 = .ok (.iconst 1, 1) := by decide +kernel
theorem d_Reader_mayFollow_11 : decode b_Reader_mayFollow 11 = .ok (.invokevirtual 83, 3) := by decide +kernel
theorem d_Reader_mayFollow_14 : decode b_Reader_mayFollow 14 = .ok (.ireturn, 1) := by decide +kernel
theorem d_Reader_mayFollow_15 : decode b_Reader_mayFollow 15 = .ok (.iload_n 2, 1) := by decide +kernel
theorem d_Reader_mayFollow_16 : decode b_Reader_mayFollow 16 = .ok (.iconst 3, 1) := by decide +kernel
theorem d_Reader_mayFollow_17 : decode b_Reader_mayFollow 17 = .ok (.if_icmp .ne 33, 3) := by decide +kernel
theorem d_Reader_mayFollow_20 : decode b_Reader_mayFollow 20 = .ok (.aload_n 0, 1) := by decide +kernel
theorem d_Reader_mayFollow_21 : decode b_Reader_mayFollow 21 = .ok (.getfield 15, 3) := by decide +kernel
theorem d_Reader_mayFollow_24 : decode b_Reader_mayFollow 24 = .ok (.iload_n 1, 1) := by decide +kernel
theorem d_Reader_mayFollow_25 : decode b_Reader_mayFollow 25 = .ok (.iconst 0, 1) := by decide +kernel
theorem d_Reader_mayFollow_26 : decode b_Reader_mayFollow 26 = .ok (.invokevirtual 83, 3) := by decide +kernel
theorem d_Reader_mayFollow_29 : decode b_Reader_mayFollow 29 = .ok (.ifCond .ne 15, 3) := by decide +kernel
theorem d_Reader_mayFollow_32 : decode b_Reader_mayFollow 32 = .ok (.aload_n 0, 1) := by decide +kernel
theorem d_Reader_mayFollow_33 : decode b_Reader_mayFollow 33 = .ok (.getfield 15, 3) := by decide +kernel
theorem d_Reader_mayFollow_36 : decode b_Reader_mayFollow 36 = .ok (.iload_n 1, 1) := by decide +kernel
theorem d_Reader_mayFollow_37 : decode b_Reader_mayFollow 37 = .ok (.iconst 2, 1) := by decide +kernel
theorem d_Reader_mayFollow_38 : decode b_Reader_mayFollow 38 = .ok (.invokevirtual 83, 3) := by decide +kernel
theorem d_Reader_mayFollow_41 : decode b_Reader_mayFollow 41 = .ok (.ifCond .eq 7, 3) := by decide +kernel
theorem d_Reader_mayFollow_44 : decode b_Reader_mayFollow 44 = .ok (.iconst 1, 1) := by decide +kernel
theorem d_Reader_mayFollow_45 : decode b_Reader_mayFollow 45 = .ok (.goto 4, 3) := by decide +kernel
theorem d_Reader_mayFollow_48 : decode b_Reader_mayFollow 48 = .ok (.iconst 0, 1) := by decide +kernel
theorem d_Reader_mayFollow_49 : decode b_Reader_mayFollow 49 = .ok (.ireturn, 1) := by decide +kernel
theorem d_Reader_mayFollow_50 : decode b_Reader_mayFollow 50 = .ok (.iload_n 2, 1) := by decide +kernel
theorem d_Reader_mayFollow_51 : decode b_Reader_mayFollow 51 = .ok (.ifCond .eq 8, 3) := by decide +kernel
theorem d_Reader_mayFollow_54 : decode b_Reader_mayFollow 54 = .ok (.iload_n 2, 1) := by decide +kernel
theorem d_Reader_mayFollow_55 : decode b_Reader_mayFollow 55 = .ok (.iconst 1, 1) := by decide +kernel
theorem d_Reader_mayFollow_56 : decode b_Reader_mayFollow 56 = .ok (.if_icmp .ne 7, 3) := by decide +kernel
theorem d_Reader_mayFollow_59 : decode b_Reader_mayFollow 59 = .ok (.iconst 1, 1) := by decide +kernel
theorem d_Reader_mayFollow_60 : decode b_Reader_mayFollow 60 = .ok (.goto 4, 3) := by decide +kernel
theorem d_Reader_mayFollow_63 : decode b_Reader_mayFollow 63 = .ok (.iconst 0, 1) := by decide +kernel
theorem d_Reader_mayFollow_64 : decode b_Reader_mayFollow 64 = .ok (.ireturn, 1) := by decide +kernel
abbrev b_Reader_refuse : ByteArray := prog_5_method_3_code
def y_Reader_refuse : MethodName := ⟨"MaskLayers$Reader", "refuse", "(I)Z"⟩
theorem d_Reader_refuse_0 : decode b_Reader_refuse 0 = .ok (.aload_n 0, 1) := by decide +kernel
theorem d_Reader_refuse_1 : decode b_Reader_refuse 1 = .ok (.iload_n 1, 1) := by decide +kernel
theorem d_Reader_refuse_2 : decode b_Reader_refuse 2 = .ok (.putfield 56, 3) := by decide +kernel
theorem d_Reader_refuse_5 : decode b_Reader_refuse 5 = .ok (.iconst 0, 1) := by decide +kernel
theorem d_Reader_refuse_6 : decode b_Reader_refuse 6 = .ok (.ireturn, 1) := by decide +kernel
abbrev b_Reader_take : ByteArray := prog_5_method_4_code
def y_Reader_take : MethodName := ⟨"MaskLayers$Reader", "take", "(II)I"⟩
theorem d_Reader_take_0 : decode b_Reader_take 0 = .ok (.aload_n 0, 1) := by decide +kernel
theorem d_Reader_take_1 : decode b_Reader_take 1 = .ok (.getfield 26, 3) := by decide +kernel
theorem d_Reader_take_4 : decode b_Reader_take 4 = .ok (.aload_n 0, 1) := by decide +kernel
theorem d_Reader_take_5 : decode b_Reader_take 5 = .ok (.getfield 9, 3) := by decide +kernel
theorem d_Reader_take_8 : decode b_Reader_take 8 = .ok (.getfield 47, 3) := by decide +kernel
theorem d_Reader_take_11 : decode b_Reader_take 11 = .ok (.if_icmp .ge 18, 3) := by decide +kernel
theorem d_Reader_take_14 : decode b_Reader_take 14 = .ok (.aload_n 0, 1) := by decide +kernel
theorem d_Reader_take_15 : decode b_Reader_take 15 = .ok (.getfield 9, 3) := by decide +kernel
theorem d_Reader_take_18 : decode b_Reader_take 18 = .ok (.getfield 59, 3) := by decide +kernel
theorem d_Reader_take_21 : decode b_Reader_take 21 = .ok (.aload_n 0, 1) := by decide +kernel
theorem d_Reader_take_22 : decode b_Reader_take 22 = .ok (.getfield 26, 3) := by decide +kernel
theorem d_Reader_take_25 : decode b_Reader_take 25 = .ok (.iaload, 1) := by decide +kernel
theorem d_Reader_take_26 : decode b_Reader_take 26 = .ok (.goto 4, 3) := by decide +kernel
theorem d_Reader_take_29 : decode b_Reader_take 29 = .ok (.iconst (-1), 1) := by decide +kernel
theorem d_Reader_take_30 : decode b_Reader_take 30 = .ok (.istore_n 3, 1) := by decide +kernel
theorem d_Reader_take_31 : decode b_Reader_take 31 = .ok (.iload_n 3, 1) := by decide +kernel
theorem d_Reader_take_32 : decode b_Reader_take 32 = .ok (.iload_n 1, 1) := by decide +kernel
end
section
theorem d_Reader_take_33 : decode b_Reader_take 33 = .ok (.if_icmp .lt 8, 3) := by decide +kernel
theorem d_Reader_take_36 : decode b_Reader_take 36 = .ok (.iload_n 3, 1) := by decide +kernel
theorem d_Reader_take_37 : decode b_Reader_take 37 = .ok (.iload_n 2, 1) := by decide +kernel
theorem d_Reader_take_38 : decode b_Reader_take 38 = .ok (.if_icmp .le 13, 3) := by decide +kernel
theorem d_Reader_take_41 : decode b_Reader_take 41 = .ok (.aload_n 0, 1) := by decide +kernel
theorem d_Reader_take_42 : decode b_Reader_take 42 = .ok (.aload_n 0, 1) := by decide +kernel
theorem d_Reader_take_43 : decode b_Reader_take 43 = .ok (.getfield 26, 3) := by decide +kernel
theorem d_Reader_take_46 : decode b_Reader_take 46 = .ok (.putfield 56, 3) := by decide +kernel
theorem d_Reader_take_49 : decode b_Reader_take 49 = .ok (.iconst (-1), 1) := by decide +kernel
theorem d_Reader_take_50 : decode b_Reader_take 50 = .ok (.ireturn, 1) := by decide +kernel
theorem d_Reader_take_51 : decode b_Reader_take 51 = .ok (.aload_n 0, 1) := by decide +kernel
theorem d_Reader_take_52 : decode b_Reader_take 52 = .ok (.dup, 1) := by decide +kernel
theorem d_Reader_take_53 : decode b_Reader_take 53 = .ok (.getfield 26, 3) := by decide +kernel
theorem d_Reader_take_56 : decode b_Reader_take 56 = .ok (.iconst 1, 1) := by decide +kernel
theorem d_Reader_take_57 : decode b_Reader_take 57 = .ok (.iadd, 1) := by decide +kernel
theorem d_Reader_take_58 : decode b_Reader_take 58 = .ok (.putfield 26, 3) := by decide +kernel
theorem d_Reader_take_61 : decode b_Reader_take 61 = .ok (.iload_n 3, 1) := by decide +kernel
theorem d_Reader_take_62 : decode b_Reader_take 62 = .ok (.ireturn, 1) := by decide +kernel
abbrev b_Reader_takeValue : ByteArray := prog_5_method_13_code
def y_Reader_takeValue : MethodName := ⟨"MaskLayers$Reader", "takeValue", "(I)I"⟩
theorem d_Reader_takeValue_0 : decode b_Reader_takeValue 0 = .ok (.iload_n 1, 1) := by decide +kernel
theorem d_Reader_takeValue_1 : decode b_Reader_takeValue 1 = .ok (.iconst 1, 1) := by decide +kernel
theorem d_Reader_takeValue_2 : decode b_Reader_takeValue 2 = .ok (.if_icmp .ne 10, 3) := by decide +kernel
theorem d_Reader_takeValue_5 : decode b_Reader_takeValue 5 = .ok (.aload_n 0, 1) := by decide +kernel
theorem d_Reader_takeValue_6 : decode b_Reader_takeValue 6 = .ok (.iconst 0, 1) := by decide +kernel
theorem d_Reader_takeValue_7 : decode b_Reader_takeValue 7 = .ok (.iconst 1, 1) := by decide +kernel
theorem d_Reader_takeValue_8 : decode b_Reader_takeValue 8 = .ok (.invokevirtual 65, 3) := by decide +kernel
theorem d_Reader_takeValue_11 : decode b_Reader_takeValue 11 = .ok (.ireturn, 1) := by decide +kernel
theorem d_Reader_takeValue_12 : decode b_Reader_takeValue 12 = .ok (.aload_n 0, 1) := by decide +kernel
theorem d_Reader_takeValue_13 : decode b_Reader_takeValue 13 = .ok (.iconst 0, 1) := by decide +kernel
theorem d_Reader_takeValue_14 : decode b_Reader_takeValue 14 = .ok (.sipush 255, 3) := by decide +kernel
theorem d_Reader_takeValue_17 : decode b_Reader_takeValue 17 = .ok (.invokevirtual 65, 3) := by decide +kernel
theorem d_Reader_takeValue_20 : decode b_Reader_takeValue 20 = .ok (.istore_n 2, 1) := by decide +kernel
theorem d_Reader_takeValue_21 : decode b_Reader_takeValue 21 = .ok (.iload_n 2, 1) := by decide +kernel
theorem d_Reader_takeValue_22 : decode b_Reader_takeValue 22 = .ok (.iconst (-1), 1) := by decide +kernel
theorem d_Reader_takeValue_23 : decode b_Reader_takeValue 23 = .ok (.if_icmp .ne 7, 3) := by decide +kernel
theorem d_Reader_takeValue_26 : decode b_Reader_takeValue 26 = .ok (.iconst (-1), 1) := by decide +kernel
theorem d_Reader_takeValue_27 : decode b_Reader_takeValue 27 = .ok (.goto 11, 3) := by decide +kernel
theorem d_Reader_takeValue_30 : decode b_Reader_takeValue 30 = .ok (.aload_n 0, 1) := by decide +kernel
theorem d_Reader_takeValue_31 : decode b_Reader_takeValue 31 = .ok (.iconst 0, 1) := by decide +kernel
theorem d_Reader_takeValue_32 : decode b_Reader_takeValue 32 = .ok (.sipush 255, 3) := by decide +kernel
theorem d_Reader_takeValue_35 : decode b_Reader_takeValue 35 = .ok (.invokevirtual 65, 3) := by decide +kernel
theorem d_Reader_takeValue_38 : decode b_Reader_takeValue 38 = .ok (.istore_n 3, 1) := by decide +kernel
theorem d_Reader_takeValue_39 : decode b_Reader_takeValue 39 = .ok (.iload_n 3, 1) := by decide +kernel
theorem d_Reader_takeValue_40 : decode b_Reader_takeValue 40 = .ok (.iconst (-1), 1) := by decide +kernel
theorem d_Reader_takeValue_41 : decode b_Reader_takeValue 41 = .ok (.if_icmp .ne 7, 3) := by decide +kernel
theorem d_Reader_takeValue_44 : decode b_Reader_takeValue 44 = .ok (.iconst (-1), 1) := by decide +kernel
theorem d_Reader_takeValue_45 : decode b_Reader_takeValue 45 = .ok (.goto 11, 3) := by decide +kernel
theorem d_Reader_takeValue_48 : decode b_Reader_takeValue 48 = .ok (.aload_n 0, 1) := by decide +kernel
theorem d_Reader_takeValue_49 : decode b_Reader_takeValue 49 = .ok (.iconst 0, 1) := by decide +kernel
theorem d_Reader_takeValue_50 : decode b_Reader_takeValue 50 = .ok (.sipush 255, 3) := by decide +kernel
theorem d_Reader_takeValue_53 : decode b_Reader_takeValue 53 = .ok (.invokevirtual 65, 3) := by decide +kernel
theorem d_Reader_takeValue_56 : decode b_Reader_takeValue 56 = .ok (.istore 4, 2) := by decide +kernel
theorem d_Reader_takeValue_58 : decode b_Reader_takeValue 58 = .ok (.iload 4, 2) := by decide +kernel
theorem d_Reader_takeValue_60 : decode b_Reader_takeValue 60 = .ok (.iconst (-1), 1) := by decide +kernel
theorem d_Reader_takeValue_61 : decode b_Reader_takeValue 61 = .ok (.if_icmp .ne 7, 3) := by decide +kernel
theorem d_Reader_takeValue_64 : decode b_Reader_takeValue 64 = .ok (.iconst (-1), 1) := by decide +kernel
theorem d_Reader_takeValue_65 : decode b_Reader_takeValue 65 = .ok (.goto 10, 3) := by decide +kernel
theorem d_Reader_takeValue_68 : decode b_Reader_takeValue 68 = .ok (.iload_n 2, 1) := by decide +kernel
theorem d_Reader_takeValue_69 : decode b_Reader_takeValue 69 = .ok (.iload_n 3, 1) := by decide +kernel
theorem d_Reader_takeValue_70 : decode b_Reader_takeValue 70 = .ok (.iload 4, 2) := by decide +kernel
theorem d_Reader_takeValue_72 : decode b_Reader_takeValue 72 = .ok (.invokestatic 122, 3) := by decide +kernel
theorem d_Reader_takeValue_75 : decode b_Reader_takeValue 75 = .ok (.ireturn, 1) := by decide +kernel
abbrev b_Reader_readColours : ByteArray := prog_5_method_12_code
def y_Reader_readColours : MethodName := ⟨"MaskLayers$Reader", "readColours", "(III)Z"⟩
theorem d_Reader_readColours_0 : decode b_Reader_readColours 0 = .ok (.iload_n 2, 1) := by decide +kernel
theorem d_Reader_readColours_1 : decode b_Reader_readColours 1 = .ok (.istore 4, 2) := by decide +kernel
theorem d_Reader_readColours_3 : decode b_Reader_readColours 3 = .ok (.iload 4, 2) := by decide +kernel
theorem d_Reader_readColours_5 : decode b_Reader_readColours 5 = .ok (.iload_n 3, 1) := by decide +kernel
theorem d_Reader_readColours_6 : decode b_Reader_readColours 6 = .ok (.if_icmp .ge 38, 3) := by decide +kernel
theorem d_Reader_readColours_9 : decode b_Reader_readColours 9 = .ok (.aload_n 0, 1) := by decide +kernel
theorem d_Reader_readColours_10 : decode b_Reader_readColours 10 = .ok (.iload_n 1, 1) := by decide +kernel
theorem d_Reader_readColours_11 : decode b_Reader_readColours 11 = .ok (.invokevirtual 115, 3) := by decide +kernel
theorem d_Reader_readColours_14 : decode b_Reader_readColours 14 = .ok (.istore 5, 2) := by decide +kernel
theorem d_Reader_readColours_16 : decode b_Reader_readColours 16 = .ok (.iload 5, 2) := by decide +kernel
theorem d_Reader_readColours_18 : decode b_Reader_readColours 18 = .ok (.iconst (-1), 1) := by decide +kernel
theorem d_Reader_readColours_19 : decode b_Reader_readColours 19 = .ok (.if_icmp .ne 5, 3) := by decide +kernel
theorem d_Reader_readColours_22 : decode b_Reader_readColours 22 = .ok (.iconst 0, 1) := by decide +kernel
theorem d_Reader_readColours_23 : decode b_Reader_readColours 23 = .ok (.ireturn, 1) := by decide +kernel
theorem d_Reader_readColours_24 : decode b_Reader_readColours 24 = .ok (.aload_n 0, 1) := by decide +kernel
theorem d_Reader_readColours_25 : decode b_Reader_readColours 25 = .ok (.getfield 15, 3) := by decide +kernel
theorem d_Reader_readColours_28 : decode b_Reader_readColours 28 = .ok (.getfield 118, 3) := by decide +kernel
theorem d_Reader_readColours_31 : decode b_Reader_readColours 31 = .ok (.iload_n 1, 1) := by decide +kernel
theorem d_Reader_readColours_32 : decode b_Reader_readColours 32 = .ok (.aaload, 1) := by decide +kernel
theorem d_Reader_readColours_33 : decode b_Reader_readColours 33 = .ok (.iload 4, 2) := by decide +kernel
theorem d_Reader_readColours_35 : decode b_Reader_readColours 35 = .ok (.iload 5, 2) := by decide +kernel
theorem d_Reader_readColours_37 : decode b_Reader_readColours 37 = .ok (.iastore, 1) := by decide +kernel
theorem d_Reader_readColours_38 : decode b_Reader_readColours 38 = .ok (.iinc 4 1, 3) := by decide +kernel
theorem d_Reader_readColours_41 : decode b_Reader_readColours 41 = .ok (.goto (-38), 3) := by decide +kernel
theorem d_Reader_readColours_44 : decode b_Reader_readColours 44 = .ok (.iconst 1, 1) := by decide +kernel
theorem d_Reader_readColours_45 : decode b_Reader_readColours 45 = .ok (.ireturn, 1) := by decide +kernel
abbrev b_Reader_readBits : ByteArray := prog_5_method_11_code
def y_Reader_readBits : MethodName := ⟨"MaskLayers$Reader", "readBits", "(II)Z"⟩
theorem d_Reader_readBits_0 : decode b_Reader_readBits 0 = .ok (.iload_n 1, 1) := by decide +kernel
theorem d_Reader_readBits_1 : decode b_Reader_readBits 1 = .ok (.istore_n 3, 1) := by decide +kernel
theorem d_Reader_readBits_2 : decode b_Reader_readBits 2 = .ok (.iload_n 3, 1) := by decide +kernel
theorem d_Reader_readBits_3 : decode b_Reader_readBits 3 = .ok (.iload_n 2, 1) := by decide +kernel
theorem d_Reader_readBits_4 : decode b_Reader_readBits 4 = .ok (.if_icmp .ge 99, 3) := by decide +kernel
theorem d_Reader_readBits_7 : decode b_Reader_readBits 7 = .ok (.aload_n 0, 1) := by decide +kernel
theorem d_Reader_readBits_8 : decode b_Reader_readBits 8 = .ok (.iconst 0, 1) := by decide +kernel
theorem d_Reader_readBits_9 : decode b_Reader_readBits 9 = .ok (.sipush 255, 3) := by decide +kernel
theorem d_Reader_readBits_12 : decode b_Reader_readBits 12 = .ok (.invokevirtual 65, 3) := by decide +kernel
theorem d_Reader_readBits_15 : decode b_Reader_readBits 15 = .ok (.istore 4, 2) := by decide +kernel
theorem d_Reader_readBits_17 : decode b_Reader_readBits 17 = .ok (.iload 4, 2) := by decide +kernel
theorem d_Reader_readBits_19 : decode b_Reader_readBits 19 = .ok (.iconst (-1), 1) := by decide +kernel
theorem d_Reader_readBits_20 : decode b_Reader_readBits 20 = .ok (.if_icmp .ne 5, 3) := by decide +kernel
theorem d_Reader_readBits_23 : decode b_Reader_readBits 23 = .ok (.iconst 0, 1) := by decide +kernel
theorem d_Reader_readBits_24 : decode b_Reader_readBits 24 = .ok (.ireturn, 1) := by decide +kernel
theorem d_Reader_readBits_25 : decode b_Reader_readBits 25 = .ok (.iconst 0, 1) := by decide +kernel
theorem d_Reader_readBits_26 : decode b_Reader_readBits 26 = .ok (.istore 5, 2) := by decide +kernel
theorem d_Reader_readBits_28 : decode b_Reader_readBits 28 = .ok (.iload 5, 2) := by decide +kernel
theorem d_Reader_readBits_30 : decode b_Reader_readBits 30 = .ok (.bipush 8, 2) := by decide +kernel
theorem d_Reader_readBits_32 : decode b_Reader_readBits 32 = .ok (.if_icmp .ge 65, 3) := by decide +kernel
theorem d_Reader_readBits_35 : decode b_Reader_readBits 35 = .ok (.iload 4, 2) := by decide +kernel
theorem d_Reader_readBits_37 : decode b_Reader_readBits 37 = .ok (.bipush 7, 2) := by decide +kernel
theorem d_Reader_readBits_39 : decode b_Reader_readBits 39 = .ok (.iload 5, 2) := by decide +kernel
theorem d_Reader_readBits_41 : decode b_Reader_readBits 41 = .ok (.isub, 1) := by decide +kernel
theorem d_Reader_readBits_42 : decode b_Reader_readBits 42 = .ok (.ishr, 1) := by decide +kernel
theorem d_Reader_readBits_43 : decode b_Reader_readBits 43 = .ok (.iconst 1, 1) := by decide +kernel
theorem d_Reader_readBits_44 : decode b_Reader_readBits 44 = .ok (.iand, 1) := by decide +kernel
theorem d_Reader_readBits_45 : decode b_Reader_readBits 45 = .ok (.istore 6, 2) := by decide +kernel
theorem d_Reader_readBits_47 : decode b_Reader_readBits 47 = .ok (.iload_n 3, 1) := by decide +kernel
theorem d_Reader_readBits_48 : decode b_Reader_readBits 48 = .ok (.iload 5, 2) := by decide +kernel
theorem d_Reader_readBits_50 : decode b_Reader_readBits 50 = .ok (.iadd, 1) := by decide +kernel
theorem d_Reader_readBits_51 : decode b_Reader_readBits 51 = .ok (.iload_n 2, 1) := by decide +kernel
theorem d_Reader_readBits_52 : decode b_Reader_readBits 52 = .ok (.if_icmp .ge 22, 3) := by decide +kernel
theorem d_Reader_readBits_55 : decode b_Reader_readBits 55 = .ok (.aload_n 0, 1) := by decide +kernel
theorem d_Reader_readBits_56 : decode b_Reader_readBits 56 = .ok (.getfield 15, 3) := by decide +kernel
theorem d_Reader_readBits_59 : decode b_Reader_readBits 59 = .ok (.getfield 118, 3) := by decide +kernel
theorem d_Reader_readBits_62 : decode b_Reader_readBits 62 = .ok (.iconst 1, 1) := by decide +kernel
theorem d_Reader_readBits_63 : decode b_Reader_readBits 63 = .ok (.aaload, 1) := by decide +kernel
theorem d_Reader_readBits_64 : decode b_Reader_readBits 64 = .ok (.iload_n 3, 1) := by decide +kernel
theorem d_Reader_readBits_65 : decode b_Reader_readBits 65 = .ok (.iload 5, 2) := by decide +kernel
theorem d_Reader_readBits_67 : decode b_Reader_readBits 67 = .ok (.iadd, 1) := by decide +kernel
theorem d_Reader_readBits_68 : decode b_Reader_readBits 68 = .ok (.iload 6, 2) := by decide +kernel
theorem d_Reader_readBits_70 : decode b_Reader_readBits 70 = .ok (.iastore, 1) := by decide +kernel
theorem d_Reader_readBits_71 : decode b_Reader_readBits 71 = .ok (.goto 20, 3) := by decide +kernel
theorem d_Reader_readBits_74 : decode b_Reader_readBits 74 = .ok (.iload 6, 2) := by decide +kernel
theorem d_Reader_readBits_76 : decode b_Reader_readBits 76 = .ok (.iconst 1, 1) := by decide +kernel
theorem d_Reader_readBits_77 : decode b_Reader_readBits 77 = .ok (.if_icmp .ne 14, 3) := by decide +kernel
theorem d_Reader_readBits_80 : decode b_Reader_readBits 80 = .ok (.aload_n 0, 1) := by decide +kernel
theorem d_Reader_readBits_81 : decode b_Reader_readBits 81 = .ok (.aload_n 0, 1) := by decide +kernel
theorem d_Reader_readBits_82 : decode b_Reader_readBits 82 = .ok (.getfield 26, 3) := by decide +kernel
theorem d_Reader_readBits_85 : decode b_Reader_readBits 85 = .ok (.iconst 1, 1) := by decide +kernel
theorem d_Reader_readBits_86 : decode b_Reader_readBits 86 = .ok (.isub, 1) := by decide +kernel
theorem d_Reader_readBits_87 : decode b_Reader_readBits 87 = .ok (.invokevirtual 52, 3) := by decide +kernel
theorem d_Reader_readBits_90 : decode b_Reader_readBits 90 = .ok (.ireturn, 1) := by decide +kernel
theorem d_Reader_readBits_91 : decode b_Reader_readBits 91 = .ok (.iinc 5 1, 3) := by decide +kernel
theorem d_Reader_readBits_94 : decode b_Reader_readBits 94 = .ok (.goto (-66), 3) := by decide +kernel
theorem d_Reader_readBits_97 : decode b_Reader_readBits 97 = .ok (.iinc 3 8, 3) := by decide +kernel
theorem d_Reader_readBits_100 : decode b_Reader_readBits 100 = .ok (.goto (-98), 3) := by decide +kernel
theorem d_Reader_readBits_103 : decode b_Reader_readBits 103 = .ok (.iconst 1, 1) := by decide +kernel
theorem d_Reader_readBits_104 : decode b_Reader_readBits 104 = .ok (.ireturn, 1) := by decide +kernel
abbrev b_Reader_readRuns : ByteArray := prog_5_method_10_code
def y_Reader_readRuns : MethodName := ⟨"MaskLayers$Reader", "readRuns", "(III)Z"⟩
theorem d_Reader_readRuns_0 : decode b_Reader_readRuns 0 = .ok (.iconst 0, 1) := by decide +kernel
theorem d_Reader_readRuns_1 : decode b_Reader_readRuns 1 = .ok (.istore 4, 2) := by decide +kernel
theorem d_Reader_readRuns_3 : decode b_Reader_readRuns 3 = .ok (.iconst (-1), 1) := by decide +kernel
theorem d_Reader_readRuns_4 : decode b_Reader_readRuns 4 = .ok (.istore 5, 2) := by decide +kernel
theorem d_Reader_readRuns_6 : decode b_Reader_readRuns 6 = .ok (.iload_n 2, 1) := by decide +kernel
theorem d_Reader_readRuns_7 : decode b_Reader_readRuns 7 = .ok (.istore 6, 2) := by decide +kernel
theorem d_Reader_readRuns_9 : decode b_Reader_readRuns 9 = .ok (.iload 6, 2) := by decide +kernel
theorem d_Reader_readRuns_11 : decode b_Reader_readRuns 11 = .ok (.iload_n 3, 1) := by decide +kernel
theorem d_Reader_readRuns_12 : decode b_Reader_readRuns 12 = .ok (.if_icmp .ge 73, 3) := by decide +kernel
theorem d_Reader_readRuns_15 : decode b_Reader_readRuns 15 = .ok (.iload 4, 2) := by decide +kernel
theorem d_Reader_readRuns_17 : decode b_Reader_readRuns 17 = .ok (.ifCond .ne 45, 3) := by decide +kernel
theorem d_Reader_readRuns_20 : decode b_Reader_readRuns 20 = .ok (.aload_n 0, 1) := by decide +kernel
theorem d_Reader_readRuns_21 : decode b_Reader_readRuns 21 = .ok (.iconst 1, 1) := by decide +kernel
theorem d_Reader_readRuns_22 : decode b_Reader_readRuns 22 = .ok (.sipush 255, 3) := by decide +kernel
theorem d_Reader_readRuns_25 : decode b_Reader_readRuns 25 = .ok (.iload_n 3, 1) := by decide +kernel
theorem d_Reader_readRuns_26 : decode b_Reader_readRuns 26 = .ok (.iload 6, 2) := by decide +kernel
theorem d_Reader_readRuns_28 : decode b_Reader_readRuns 28 = .ok (.isub, 1) := by decide +kernel
theorem d_Reader_readRuns_29 : decode b_Reader_readRuns 29 = .ok (.invokestatic 110, 3) := by decide +kernel
theorem d_Reader_readRuns_32 : decode b_Reader_readRuns 32 = .ok (.invokevirtual 65, 3) := by decide +kernel
theorem d_Reader_readRuns_35 : decode b_Reader_readRuns 35 = .ok (.istore 4, 2) := by decide +kernel
theorem d_Reader_readRuns_37 : decode b_Reader_readRuns 37 = .ok (.iload 4, 2) := by decide +kernel
theorem d_Reader_readRuns_39 : decode b_Reader_readRuns 39 = .ok (.iconst (-1), 1) := by decide +kernel
theorem d_Reader_readRuns_40 : decode b_Reader_readRuns 40 = .ok (.if_icmp .ne 7, 3) := by decide +kernel
theorem d_Reader_readRuns_43 : decode b_Reader_readRuns 43 = .ok (.iconst (-1), 1) := by decide +kernel
theorem d_Reader_readRuns_44 : decode b_Reader_readRuns 44 = .ok (.goto 8, 3) := by decide +kernel
theorem d_Reader_readRuns_47 : decode b_Reader_readRuns 47 = .ok (.aload_n 0, 1) := by decide +kernel
theorem d_Reader_readRuns_48 : decode b_Reader_readRuns 48 = .ok (.iload_n 1, 1) := by decide +kernel
theorem d_Reader_readRuns_49 : decode b_Reader_readRuns 49 = .ok (.invokevirtual 115, 3) := by decide +kernel
theorem d_Reader_readRuns_52 : decode b_Reader_readRuns 52 = .ok (.istore 5, 2) := by decide +kernel
theorem d_Reader_readRuns_54 : decode b_Reader_readRuns 54 = .ok (.iload 5, 2) := by decide +kernel
theorem d_Reader_readRuns_56 : decode b_Reader_readRuns 56 = .ok (.iconst (-1), 1) := by decide +kernel
theorem d_Reader_readRuns_57 : decode b_Reader_readRuns 57 = .ok (.if_icmp .ne 5, 3) := by decide +kernel
theorem d_Reader_readRuns_60 : decode b_Reader_readRuns 60 = .ok (.iconst 0, 1) := by decide +kernel
theorem d_Reader_readRuns_61 : decode b_Reader_readRuns 61 = .ok (.ireturn, 1) := by decide +kernel
theorem d_Reader_readRuns_62 : decode b_Reader_readRuns 62 = .ok (.aload_n 0, 1) := by decide +kernel
theorem d_Reader_readRuns_63 : decode b_Reader_readRuns 63 = .ok (.getfield 15, 3) := by decide +kernel
theorem d_Reader_readRuns_66 : decode b_Reader_readRuns 66 = .ok (.getfield 118, 3) := by decide +kernel
theorem d_Reader_readRuns_69 : decode b_Reader_readRuns 69 = .ok (.iload_n 1, 1) := by decide +kernel
theorem d_Reader_readRuns_70 : decode b_Reader_readRuns 70 = .ok (.aaload, 1) := by decide +kernel
theorem d_Reader_readRuns_71 : decode b_Reader_readRuns 71 = .ok (.iload 6, 2) := by decide +kernel
theorem d_Reader_readRuns_73 : decode b_Reader_readRuns 73 = .ok (.iload 5, 2) := by decide +kernel
theorem d_Reader_readRuns_75 : decode b_Reader_readRuns 75 = .ok (.iastore, 1) := by decide +kernel
theorem d_Reader_readRuns_76 : decode b_Reader_readRuns 76 = .ok (.iinc 4 (-1), 3) := by decide +kernel
theorem d_Reader_readRuns_79 : decode b_Reader_readRuns 79 = .ok (.iinc 6 1, 3) := by decide +kernel
theorem d_Reader_readRuns_82 : decode b_Reader_readRuns 82 = .ok (.goto (-73), 3) := by decide +kernel
theorem d_Reader_readRuns_85 : decode b_Reader_readRuns 85 = .ok (.iconst 1, 1) := by decide +kernel
theorem d_Reader_readRuns_86 : decode b_Reader_readRuns 86 = .ok (.ireturn, 1) := by decide +kernel
abbrev b_Reader_readLayer : ByteArray := prog_5_method_9_code
def y_Reader_readLayer : MethodName := ⟨"MaskLayers$Reader", "readLayer", "(II)Z"⟩
theorem d_Reader_readLayer_0 : decode b_Reader_readLayer 0 = .ok (.aload_n 0, 1) := by decide +kernel
theorem d_Reader_readLayer_1 : decode b_Reader_readLayer 1 = .ok (.getfield 15, 3) := by decide +kernel
theorem d_Reader_readLayer_4 : decode b_Reader_readLayer 4 = .ok (.iload_n 1, 1) := by decide +kernel
theorem d_Reader_readLayer_5 : decode b_Reader_readLayer 5 = .ok (.invokevirtual 86, 3) := by decide +kernel
theorem d_Reader_readLayer_8 : decode b_Reader_readLayer 8 = .ok (.istore_n 3, 1) := by decide +kernel
theorem d_Reader_readLayer_9 : decode b_Reader_readLayer 9 = .ok (.aload_n 0, 1) := by decide +kernel
theorem d_Reader_readLayer_10 : decode b_Reader_readLayer 10 = .ok (.getfield 15, 3) := by decide +kernel
theorem d_Reader_readLayer_13 : decode b_Reader_readLayer 13 = .ok (.iload_n 1, 1) := by decide +kernel
theorem d_Reader_readLayer_14 : decode b_Reader_readLayer 14 = .ok (.iload_n 2, 1) := by decide +kernel
theorem d_Reader_readLayer_15 : decode b_Reader_readLayer 15 = .ok (.invokevirtual 90, 3) := by decide +kernel
theorem d_Reader_readLayer_18 : decode b_Reader_readLayer 18 = .ok (.istore 4, 2) := by decide +kernel
theorem d_Reader_readLayer_20 : decode b_Reader_readLayer 20 = .ok (.aload_n 0, 1) := by decide +kernel
theorem d_Reader_readLayer_21 : decode b_Reader_readLayer 21 = .ok (.iconst 0, 1) := by decide +kernel
theorem d_Reader_readLayer_22 : decode b_Reader_readLayer 22 = .ok (.iconst 1, 1) := by decide +kernel
theorem d_Reader_readLayer_23 : decode b_Reader_readLayer 23 = .ok (.invokevirtual 65, 3) := by decide +kernel
theorem d_Reader_readLayer_26 : decode b_Reader_readLayer 26 = .ok (.istore 5, 2) := by decide +kernel
theorem d_Reader_readLayer_28 : decode b_Reader_readLayer 28 = .ok (.aload_n 0, 1) := by decide +kernel
theorem d_Reader_readLayer_29 : decode b_Reader_readLayer 29 = .ok (.getfield 26, 3) := by decide +kernel
theorem d_Reader_readLayer_32 : decode b_Reader_readLayer 32 = .ok (.istore 6, 2) := by decide +kernel
theorem d_Reader_readLayer_34 : decode b_Reader_readLayer 34 = .ok (.iload 5, 2) := by decide +kernel
theorem d_Reader_readLayer_36 : decode b_Reader_readLayer 36 = .ok (.iconst (-1), 1) := by decide +kernel
theorem d_Reader_readLayer_37 : decode b_Reader_readLayer 37 = .ok (.if_icmp .ne 7, 3) := by decide +kernel
theorem d_Reader_readLayer_40 : decode b_Reader_readLayer 40 = .ok (.iconst (-1), 1) := by decide +kernel
theorem d_Reader_readLayer_41 : decode b_Reader_readLayer 41 = .ok (.goto 11, 3) := by decide +kernel
theorem d_Reader_readLayer_44 : decode b_Reader_readLayer 44 = .ok (.aload_n 0, 1) := by decide +kernel
theorem d_Reader_readLayer_45 : decode b_Reader_readLayer 45 = .ok (.iconst 0, 1) := by decide +kernel
theorem d_Reader_readLayer_46 : decode b_Reader_readLayer 46 = .ok (.sipush 255, 3) := by decide +kernel
theorem d_Reader_readLayer_49 : decode b_Reader_readLayer 49 = .ok (.invokevirtual 65, 3) := by decide +kernel
theorem d_Reader_readLayer_52 : decode b_Reader_readLayer 52 = .ok (.istore 7, 2) := by decide +kernel
theorem d_Reader_readLayer_54 : decode b_Reader_readLayer 54 = .ok (.iload 7, 2) := by decide +kernel
theorem d_Reader_readLayer_56 : decode b_Reader_readLayer 56 = .ok (.iconst (-1), 1) := by decide +kernel
theorem d_Reader_readLayer_57 : decode b_Reader_readLayer 57 = .ok (.if_icmp .ne 7, 3) := by decide +kernel
theorem d_Reader_readLayer_60 : decode b_Reader_readLayer 60 = .ok (.iconst (-1), 1) := by decide +kernel
theorem d_Reader_readLayer_61 : decode b_Reader_readLayer 61 = .ok (.goto 11, 3) := by decide +kernel
theorem d_Reader_readLayer_64 : decode b_Reader_readLayer 64 = .ok (.aload_n 0, 1) := by decide +kernel
theorem d_Reader_readLayer_65 : decode b_Reader_readLayer 65 = .ok (.iconst 0, 1) := by decide +kernel
theorem d_Reader_readLayer_66 : decode b_Reader_readLayer 66 = .ok (.sipush 255, 3) := by decide +kernel
theorem d_Reader_readLayer_69 : decode b_Reader_readLayer 69 = .ok (.invokevirtual 65, 3) := by decide +kernel
theorem d_Reader_readLayer_72 : decode b_Reader_readLayer 72 = .ok (.istore 8, 2) := by decide +kernel
theorem d_Reader_readLayer_74 : decode b_Reader_readLayer 74 = .ok (.iload 8, 2) := by decide +kernel
theorem d_Reader_readLayer_76 : decode b_Reader_readLayer 76 = .ok (.iconst (-1), 1) := by decide +kernel
theorem d_Reader_readLayer_77 : decode b_Reader_readLayer 77 = .ok (.if_icmp .ne 5, 3) := by decide +kernel
theorem d_Reader_readLayer_80 : decode b_Reader_readLayer 80 = .ok (.iconst 0, 1) := by decide +kernel
theorem d_Reader_readLayer_81 : decode b_Reader_readLayer 81 = .ok (.ireturn, 1) := by decide +kernel
theorem d_Reader_readLayer_82 : decode b_Reader_readLayer 82 = .ok (.iload 8, 2) := by decide +kernel
theorem d_Reader_readLayer_84 : decode b_Reader_readLayer 84 = .ok (.bipush 8, 2) := by decide +kernel
theorem d_Reader_readLayer_86 : decode b_Reader_readLayer 86 = .ok (.ishl, 1) := by decide +kernel
theorem d_Reader_readLayer_87 : decode b_Reader_readLayer 87 = .ok (.iload 7, 2) := by decide +kernel
theorem d_Reader_readLayer_89 : decode b_Reader_readLayer 89 = .ok (.ior, 1) := by decide +kernel
theorem d_Reader_readLayer_90 : decode b_Reader_readLayer 90 = .ok (.istore 9, 2) := by decide +kernel
theorem d_Reader_readLayer_92 : decode b_Reader_readLayer 92 = .ok (.iload 5, 2) := by decide +kernel
theorem d_Reader_readLayer_94 : decode b_Reader_readLayer 94 = .ok (.ifCond .ne 23, 3) := by decide +kernel
theorem d_Reader_readLayer_97 : decode b_Reader_readLayer 97 = .ok (.iload 9, 2) := by decide +kernel
theorem d_Reader_readLayer_99 : decode b_Reader_readLayer 99 = .ok (.iload_n 2, 1) := by decide +kernel
theorem d_Reader_readLayer_100 : decode b_Reader_readLayer 100 = .ok (.iload 4, 2) := by decide +kernel
theorem d_Reader_readLayer_102 : decode b_Reader_readLayer 102 = .ok (.iload_n 3, 1) := by decide +kernel
theorem d_Reader_readLayer_103 : decode b_Reader_readLayer 103 = .ok (.isub, 1) := by decide +kernel
theorem d_Reader_readLayer_104 : decode b_Reader_readLayer 104 = .ok (.invokestatic 93, 3) := by decide +kernel
theorem d_Reader_readLayer_107 : decode b_Reader_readLayer 107 = .ok (.if_icmp .eq 10, 3) := by decide +kernel
theorem d_Reader_readLayer_110 : decode b_Reader_readLayer 110 = .ok (.aload_n 0, 1) := by decide +kernel
theorem d_Reader_readLayer_111 : decode b_Reader_readLayer 111 = .ok (.iload 6, 2) := by decide +kernel
theorem d_Reader_readLayer_113 : decode b_Reader_readLayer 113 = .ok (.invokevirtual 52, 3) := by decide +kernel
theorem d_Reader_readLayer_116 : decode b_Reader_readLayer 116 = .ok (.ireturn, 1) := by decide +kernel
theorem d_Reader_readLayer_117 : decode b_Reader_readLayer 117 = .ok (.iload 5, 2) := by decide +kernel
theorem d_Reader_readLayer_119 : decode b_Reader_readLayer 119 = .ok (.iconst 1, 1) := by decide +kernel
theorem d_Reader_readLayer_120 : decode b_Reader_readLayer 120 = .ok (.if_icmp .ne 14, 3) := by decide +kernel
theorem d_Reader_readLayer_123 : decode b_Reader_readLayer 123 = .ok (.aload_n 0, 1) := by decide +kernel
theorem d_Reader_readLayer_124 : decode b_Reader_readLayer 124 = .ok (.iload_n 2, 1) := by decide +kernel
theorem d_Reader_readLayer_125 : decode b_Reader_readLayer 125 = .ok (.iload_n 3, 1) := by decide +kernel
theorem d_Reader_readLayer_126 : decode b_Reader_readLayer 126 = .ok (.iload 4, 2) := by decide +kernel
theorem d_Reader_readLayer_128 : decode b_Reader_readLayer 128 = .ok (.invokevirtual 96, 3) := by decide +kernel
theorem d_Reader_readLayer_131 : decode b_Reader_readLayer 131 = .ok (.goto 26, 3) := by decide +kernel
theorem d_Reader_readLayer_134 : decode b_Reader_readLayer 134 = .ok (.iload_n 2, 1) := by decide +kernel
theorem d_Reader_readLayer_135 : decode b_Reader_readLayer 135 = .ok (.iconst 1, 1) := by decide +kernel
theorem d_Reader_readLayer_136 : decode b_Reader_readLayer 136 = .ok (.if_icmp .ne 13, 3) := by decide +kernel
theorem d_Reader_readLayer_139 : decode b_Reader_readLayer 139 = .ok (.aload_n 0, 1) := by decide +kernel
theorem d_Reader_readLayer_140 : decode b_Reader_readLayer 140 = .ok (.iload_n 3, 1) := by decide +kernel
theorem d_Reader_readLayer_141 : decode b_Reader_readLayer 141 = .ok (.iload 4, 2) := by decide +kernel
theorem d_Reader_readLayer_143 : decode b_Reader_readLayer 143 = .ok (.invokevirtual 100, 3) := by decide +kernel
theorem d_Reader_readLayer_146 : decode b_Reader_readLayer 146 = .ok (.goto 11, 3) := by decide +kernel
theorem d_Reader_readLayer_149 : decode b_Reader_readLayer 149 = .ok (.aload_n 0, 1) := by decide +kernel
theorem d_Reader_readLayer_150 : decode b_Reader_readLayer 150 = .ok (.iload_n 2, 1) := by decide +kernel
theorem d_Reader_readLayer_151 : decode b_Reader_readLayer 151 = .ok (.iload_n 3, 1) := by decide +kernel
theorem d_Reader_readLayer_152 : decode b_Reader_readLayer 152 = .ok (.iload 4, 2) := by decide +kernel
theorem d_Reader_readLayer_154 : decode b_Reader_readLayer 154 = .ok (.invokevirtual 103, 3) := by decide +kernel
theorem d_Reader_readLayer_157 : decode b_Reader_readLayer 157 = .ok (.istore 10, 2) := by decide +kernel
theorem d_Reader_readLayer_159 : decode b_Reader_readLayer 159 = .ok (.iload 10, 2) := by decide +kernel
theorem d_Reader_readLayer_161 : decode b_Reader_readLayer 161 = .ok (.ifCond .ne 5, 3) := by decide +kernel
theorem d_Reader_readLayer_164 : decode b_Reader_readLayer 164 = .ok (.iconst 0, 1) := by decide +kernel
theorem d_Reader_readLayer_165 : decode b_Reader_readLayer 165 = .ok (.ireturn, 1) := by decide +kernel
theorem d_Reader_readLayer_166 : decode b_Reader_readLayer 166 = .ok (.aload_n 0, 1) := by decide +kernel
theorem d_Reader_readLayer_167 : decode b_Reader_readLayer 167 = .ok (.getfield 26, 3) := by decide +kernel
theorem d_Reader_readLayer_170 : decode b_Reader_readLayer 170 = .ok (.iload 6, 2) := by decide +kernel
theorem d_Reader_readLayer_172 : decode b_Reader_readLayer 172 = .ok (.isub, 1) := by decide +kernel
theorem d_Reader_readLayer_173 : decode b_Reader_readLayer 173 = .ok (.iconst 2, 1) := by decide +kernel
theorem d_Reader_readLayer_174 : decode b_Reader_readLayer 174 = .ok (.isub, 1) := by decide +kernel
theorem d_Reader_readLayer_175 : decode b_Reader_readLayer 175 = .ok (.iload 9, 2) := by decide +kernel
theorem d_Reader_readLayer_177 : decode b_Reader_readLayer 177 = .ok (.if_icmp .eq 10, 3) := by decide +kernel
theorem d_Reader_readLayer_180 : decode b_Reader_readLayer 180 = .ok (.aload_n 0, 1) := by decide +kernel
theorem d_Reader_readLayer_181 : decode b_Reader_readLayer 181 = .ok (.iload 6, 2) := by decide +kernel
theorem d_Reader_readLayer_183 : decode b_Reader_readLayer 183 = .ok (.invokevirtual 52, 3) := by decide +kernel
theorem d_Reader_readLayer_186 : decode b_Reader_readLayer 186 = .ok (.ireturn, 1) := by decide +kernel
theorem d_Reader_readLayer_187 : decode b_Reader_readLayer 187 = .ok (.aload_n 0, 1) := by decide +kernel
theorem d_Reader_readLayer_188 : decode b_Reader_readLayer 188 = .ok (.getfield 15, 3) := by decide +kernel
theorem d_Reader_readLayer_191 : decode b_Reader_readLayer 191 = .ok (.iload_n 1, 1) := by decide +kernel
theorem d_Reader_readLayer_192 : decode b_Reader_readLayer 192 = .ok (.iload_n 2, 1) := by decide +kernel
theorem d_Reader_readLayer_193 : decode b_Reader_readLayer 193 = .ok (.invokevirtual 106, 3) := by decide +kernel
theorem d_Reader_readLayer_196 : decode b_Reader_readLayer 196 = .ok (.iconst 1, 1) := by decide +kernel
theorem d_Reader_readLayer_197 : decode b_Reader_readLayer 197 = .ok (.ireturn, 1) := by decide +kernel
abbrev b_Reader_readStripe : ByteArray := prog_5_method_6_code
def y_Reader_readStripe : MethodName := ⟨"MaskLayers$Reader", "readStripe", "(I)Z"⟩
theorem d_Reader_readStripe_0 : decode b_Reader_readStripe 0 = .ok (.iconst (-1), 1) := by decide +kernel
theorem d_Reader_readStripe_1 : decode b_Reader_readStripe 1 = .ok (.istore_n 2, 1) := by decide +kernel
theorem d_Reader_readStripe_2 : decode b_Reader_readStripe 2 = .ok (.iconst 0, 1) := by decide +kernel
theorem d_Reader_readStripe_3 : decode b_Reader_readStripe 3 = .ok (.istore_n 3, 1) := by decide +kernel
theorem d_Reader_readStripe_4 : decode b_Reader_readStripe 4 = .ok (.iload_n 3, 1) := by decide +kernel
theorem d_Reader_readStripe_5 : decode b_Reader_readStripe 5 = .ok (.iconst 4, 1) := by decide +kernel
theorem d_Reader_readStripe_6 : decode b_Reader_readStripe 6 = .ok (.if_icmp .gt 112, 3) := by decide +kernel
theorem d_Reader_readStripe_9 : decode b_Reader_readStripe 9 = .ok (.aload_n 0, 1) := by decide +kernel
theorem d_Reader_readStripe_10 : decode b_Reader_readStripe 10 = .ok (.getfield 26, 3) := by decide +kernel
theorem d_Reader_readStripe_13 : decode b_Reader_readStripe 13 = .ok (.istore 4, 2) := by decide +kernel
theorem d_Reader_readStripe_15 : decode b_Reader_readStripe 15 = .ok (.aload_n 0, 1) := by decide +kernel
theorem d_Reader_readStripe_16 : decode b_Reader_readStripe 16 = .ok (.sipush 160, 3) := by decide +kernel
theorem d_Reader_readStripe_19 : decode b_Reader_readStripe 19 = .ok (.sipush 175, 3) := by decide +kernel
theorem d_Reader_readStripe_22 : decode b_Reader_readStripe 22 = .ok (.invokevirtual 65, 3) := by decide +kernel
theorem d_Reader_readStripe_25 : decode b_Reader_readStripe 25 = .ok (.istore 5, 2) := by decide +kernel
theorem d_Reader_readStripe_27 : decode b_Reader_readStripe 27 = .ok (.iload 5, 2) := by decide +kernel
theorem d_Reader_readStripe_29 : decode b_Reader_readStripe 29 = .ok (.iconst (-1), 1) := by decide +kernel
theorem d_Reader_readStripe_30 : decode b_Reader_readStripe 30 = .ok (.if_icmp .ne 5, 3) := by decide +kernel
theorem d_Reader_readStripe_33 : decode b_Reader_readStripe 33 = .ok (.iconst 0, 1) := by decide +kernel
theorem d_Reader_readStripe_34 : decode b_Reader_readStripe 34 = .ok (.ireturn, 1) := by decide +kernel
theorem d_Reader_readStripe_35 : decode b_Reader_readStripe 35 = .ok (.iload 5, 2) := by decide +kernel
theorem d_Reader_readStripe_37 : decode b_Reader_readStripe 37 = .ok (.sipush 160, 3) := by decide +kernel
theorem d_Reader_readStripe_40 : decode b_Reader_readStripe 40 = .ok (.isub, 1) := by decide +kernel
theorem d_Reader_readStripe_41 : decode b_Reader_readStripe 41 = .ok (.istore 6, 2) := by decide +kernel
theorem d_Reader_readStripe_43 : decode b_Reader_readStripe 43 = .ok (.iload 5, 2) := by decide +kernel
theorem d_Reader_readStripe_45 : decode b_Reader_readStripe 45 = .ok (.sipush 175, 3) := by decide +kernel
theorem d_Reader_readStripe_48 : decode b_Reader_readStripe 48 = .ok (.if_icmp .ne 26, 3) := by decide +kernel
theorem d_Reader_readStripe_51 : decode b_Reader_readStripe 51 = .ok (.aload_n 0, 1) := by decide +kernel
theorem d_Reader_readStripe_52 : decode b_Reader_readStripe 52 = .ok (.iload_n 1, 1) := by decide +kernel
theorem d_Reader_readStripe_53 : decode b_Reader_readStripe 53 = .ok (.invokevirtual 73, 3) := by decide +kernel
theorem d_Reader_readStripe_56 : decode b_Reader_readStripe 56 = .ok (.ifCond .ne 12, 3) := by decide +kernel
theorem d_Reader_readStripe_59 : decode b_Reader_readStripe 59 = .ok (.aload_n 0, 1) := by decide +kernel
theorem d_Reader_readStripe_60 : decode b_Reader_readStripe 60 = .ok (.iload 4, 2) := by decide +kernel
theorem d_Reader_readStripe_62 : decode b_Reader_readStripe 62 = .ok (.invokevirtual 52, 3) := by decide +kernel
theorem d_Reader_readStripe_65 : decode b_Reader_readStripe 65 = .ok (.ifCond .eq 7, 3) := by decide +kernel
theorem d_Reader_readStripe_68 : decode b_Reader_readStripe 68 = .ok (.iconst 1, 1) := by decide +kernel
theorem d_Reader_readStripe_69 : decode b_Reader_readStripe 69 = .ok (.goto 4, 3) := by decide +kernel
theorem d_Reader_readStripe_72 : decode b_Reader_readStripe 72 = .ok (.iconst 0, 1) := by decide +kernel
theorem d_Reader_readStripe_73 : decode b_Reader_readStripe 73 = .ok (.ireturn, 1) := by decide +kernel
theorem d_Reader_readStripe_74 : decode b_Reader_readStripe 74 = .ok (.iload 6, 2) := by decide +kernel
theorem d_Reader_readStripe_76 : decode b_Reader_readStripe 76 = .ok (.iload_n 2, 1) := by decide +kernel
theorem d_Reader_readStripe_77 : decode b_Reader_readStripe 77 = .ok (.if_icmp .le 13, 3) := by decide +kernel
theorem d_Reader_readStripe_80 : decode b_Reader_readStripe 80 = .ok (.aload_n 0, 1) := by decide +kernel
theorem d_Reader_readStripe_81 : decode b_Reader_readStripe 81 = .ok (.iload_n 1, 1) := by decide +kernel
theorem d_Reader_readStripe_82 : decode b_Reader_readStripe 82 = .ok (.iload 6, 2) := by decide +kernel
theorem d_Reader_readStripe_84 : decode b_Reader_readStripe 84 = .ok (.invokevirtual 76, 3) := by decide +kernel
theorem d_Reader_readStripe_87 : decode b_Reader_readStripe 87 = .ok (.ifCond .ne 10, 3) := by decide +kernel
theorem d_Reader_readStripe_90 : decode b_Reader_readStripe 90 = .ok (.aload_n 0, 1) := by decide +kernel
theorem d_Reader_readStripe_91 : decode b_Reader_readStripe 91 = .ok (.iload 4, 2) := by decide +kernel
theorem d_Reader_readStripe_93 : decode b_Reader_readStripe 93 = .ok (.invokevirtual 52, 3) := by decide +kernel
theorem d_Reader_readStripe_96 : decode b_Reader_readStripe 96 = .ok (.ireturn, 1) := by decide +kernel
theorem d_Reader_readStripe_97 : decode b_Reader_readStripe 97 = .ok (.aload_n 0, 1) := by decide +kernel
theorem d_Reader_readStripe_98 : decode b_Reader_readStripe 98 = .ok (.iload_n 1, 1) := by decide +kernel
theorem d_Reader_readStripe_99 : decode b_Reader_readStripe 99 = .ok (.iload 6, 2) := by decide +kernel
theorem d_Reader_readStripe_101 : decode b_Reader_readStripe 101 = .ok (.invokevirtual 80, 3) := by decide +kernel
theorem d_Reader_readStripe_104 : decode b_Reader_readStripe 104 = .ok (.ifCond .ne 5, 3) := by decide +kernel
theorem d_Reader_readStripe_107 : decode b_Reader_readStripe 107 = .ok (.iconst 0, 1) := by decide +kernel
theorem d_Reader_readStripe_108 : decode b_Reader_readStripe 108 = .ok (.ireturn, 1) := by decide +kernel
theorem d_Reader_readStripe_109 : decode b_Reader_readStripe 109 = .ok (.iload 6, 2) := by decide +kernel
theorem d_Reader_readStripe_111 : decode b_Reader_readStripe 111 = .ok (.istore_n 2, 1) := by decide +kernel
theorem d_Reader_readStripe_112 : decode b_Reader_readStripe 112 = .ok (.iinc 3 1, 3) := by decide +kernel
theorem d_Reader_readStripe_115 : decode b_Reader_readStripe 115 = .ok (.goto (-111), 3) := by decide +kernel
theorem d_Reader_readStripe_118 : decode b_Reader_readStripe 118 = .ok (.aload_n 0, 1) := by decide +kernel
theorem d_Reader_readStripe_119 : decode b_Reader_readStripe 119 = .ok (.aload_n 0, 1) := by decide +kernel
theorem d_Reader_readStripe_120 : decode b_Reader_readStripe 120 = .ok (.getfield 26, 3) := by decide +kernel
theorem d_Reader_readStripe_123 : decode b_Reader_readStripe 123 = .ok (.invokevirtual 52, 3) := by decide +kernel
theorem d_Reader_readStripe_126 : decode b_Reader_readStripe 126 = .ok (.ireturn, 1) := by decide +kernel
abbrev b_Reader_readHead : ByteArray := prog_5_method_5_code
def y_Reader_readHead : MethodName := ⟨"MaskLayers$Reader", "readHead", "()Z"⟩
theorem d_Reader_readHead_0 : decode b_Reader_readHead 0 = .ok (.iconst 0, 1) := by decide +kernel
theorem d_Reader_readHead_1 : decode b_Reader_readHead 1 = .ok (.istore_n 1, 1) := by decide +kernel
theorem d_Reader_readHead_2 : decode b_Reader_readHead 2 = .ok (.iload_n 1, 1) := by decide +kernel
theorem d_Reader_readHead_3 : decode b_Reader_readHead 3 = .ok (.aload_n 0, 1) := by decide +kernel
theorem d_Reader_readHead_4 : decode b_Reader_readHead 4 = .ok (.getfield 23, 3) := by decide +kernel
theorem d_Reader_readHead_7 : decode b_Reader_readHead 7 = .ok (.arraylength, 1) := by decide +kernel
theorem d_Reader_readHead_8 : decode b_Reader_readHead 8 = .ok (.if_icmp .ge 41, 3) := by decide +kernel
theorem d_Reader_readHead_11 : decode b_Reader_readHead 11 = .ok (.aload_n 0, 1) := by decide +kernel
theorem d_Reader_readHead_12 : decode b_Reader_readHead 12 = .ok (.getfield 23, 3) := by decide +kernel
theorem d_Reader_readHead_15 : decode b_Reader_readHead 15 = .ok (.iload_n 1, 1) := by decide +kernel
theorem d_Reader_readHead_16 : decode b_Reader_readHead 16 = .ok (.aload_n 0, 1) := by decide +kernel
theorem d_Reader_readHead_17 : decode b_Reader_readHead 17 = .ok (.getstatic 19, 3) := by decide +kernel
theorem d_Reader_readHead_20 : decode b_Reader_readHead 20 = .ok (.iload_n 1, 1) := by decide +kernel
theorem d_Reader_readHead_21 : decode b_Reader_readHead 21 = .ok (.iaload, 1) := by decide +kernel
theorem d_Reader_readHead_22 : decode b_Reader_readHead 22 = .ok (.getstatic 62, 3) := by decide +kernel
theorem d_Reader_readHead_25 : decode b_Reader_readHead 25 = .ok (.iload_n 1, 1) := by decide +kernel
end
section
theorem d_Reader_readHead_26 : decode b_Reader_readHead 26 = .ok (.iaload, 1) := by decide +kernel
theorem d_Reader_readHead_27 : decode b_Reader_readHead 27 = .ok (.invokevirtual 65, 3) := by decide +kernel
theorem d_Reader_readHead_30 : decode b_Reader_readHead 30 = .ok (.iastore, 1) := by decide +kernel
theorem d_Reader_readHead_31 : decode b_Reader_readHead 31 = .ok (.aload_n 0, 1) := by decide +kernel
theorem d_Reader_readHead_32 : decode b_Reader_readHead 32 = .ok (.getfield 23, 3) := by decide +kernel
theorem d_Reader_readHead_35 : decode b_Reader_readHead 35 = .ok (.iload_n 1, 1) := by decide +kernel
theorem d_Reader_readHead_36 : decode b_Reader_readHead 36 = .ok (.iaload, 1) := by decide +kernel
theorem d_Reader_readHead_37 : decode b_Reader_readHead 37 = .ok (.iconst (-1), 1) := by decide +kernel
theorem d_Reader_readHead_38 : decode b_Reader_readHead 38 = .ok (.if_icmp .ne 5, 3) := by decide +kernel
theorem d_Reader_readHead_41 : decode b_Reader_readHead 41 = .ok (.iconst 0, 1) := by decide +kernel
theorem d_Reader_readHead_42 : decode b_Reader_readHead 42 = .ok (.ireturn, 1) := by decide +kernel
theorem d_Reader_readHead_43 : decode b_Reader_readHead 43 = .ok (.iinc 1 1, 3) := by decide +kernel
theorem d_Reader_readHead_46 : decode b_Reader_readHead 46 = .ok (.goto (-44), 3) := by decide +kernel
theorem d_Reader_readHead_49 : decode b_Reader_readHead 49 = .ok (.aload_n 0, 1) := by decide +kernel
theorem d_Reader_readHead_50 : decode b_Reader_readHead 50 = .ok (.getfield 15, 3) := by decide +kernel
theorem d_Reader_readHead_53 : decode b_Reader_readHead 53 = .ok (.aload_n 0, 1) := by decide +kernel
theorem d_Reader_readHead_54 : decode b_Reader_readHead 54 = .ok (.getfield 23, 3) := by decide +kernel
theorem d_Reader_readHead_57 : decode b_Reader_readHead 57 = .ok (.iconst 2, 1) := by decide +kernel
theorem d_Reader_readHead_58 : decode b_Reader_readHead 58 = .ok (.iaload, 1) := by decide +kernel
theorem d_Reader_readHead_59 : decode b_Reader_readHead 59 = .ok (.aload_n 0, 1) := by decide +kernel
theorem d_Reader_readHead_60 : decode b_Reader_readHead 60 = .ok (.getfield 23, 3) := by decide +kernel
theorem d_Reader_readHead_63 : decode b_Reader_readHead 63 = .ok (.iconst 3, 1) := by decide +kernel
theorem d_Reader_readHead_64 : decode b_Reader_readHead 64 = .ok (.iaload, 1) := by decide +kernel
theorem d_Reader_readHead_65 : decode b_Reader_readHead 65 = .ok (.aload_n 0, 1) := by decide +kernel
theorem d_Reader_readHead_66 : decode b_Reader_readHead 66 = .ok (.getfield 23, 3) := by decide +kernel
theorem d_Reader_readHead_69 : decode b_Reader_readHead 69 = .ok (.iconst 4, 1) := by decide +kernel
theorem d_Reader_readHead_70 : decode b_Reader_readHead 70 = .ok (.iaload, 1) := by decide +kernel
theorem d_Reader_readHead_71 : decode b_Reader_readHead 71 = .ok (.aload_n 0, 1) := by decide +kernel
theorem d_Reader_readHead_72 : decode b_Reader_readHead 72 = .ok (.getfield 23, 3) := by decide +kernel
theorem d_Reader_readHead_75 : decode b_Reader_readHead 75 = .ok (.iconst 5, 1) := by decide +kernel
theorem d_Reader_readHead_76 : decode b_Reader_readHead 76 = .ok (.iaload, 1) := by decide +kernel
theorem d_Reader_readHead_77 : decode b_Reader_readHead 77 = .ok (.aload_n 0, 1) := by decide +kernel
theorem d_Reader_readHead_78 : decode b_Reader_readHead 78 = .ok (.getfield 23, 3) := by decide +kernel
theorem d_Reader_readHead_81 : decode b_Reader_readHead 81 = .ok (.bipush 6, 2) := by decide +kernel
theorem d_Reader_readHead_83 : decode b_Reader_readHead 83 = .ok (.iaload, 1) := by decide +kernel
theorem d_Reader_readHead_84 : decode b_Reader_readHead 84 = .ok (.invokevirtual 69, 3) := by decide +kernel
theorem d_Reader_readHead_87 : decode b_Reader_readHead 87 = .ok (.iconst 1, 1) := by decide +kernel
theorem d_Reader_readHead_88 : decode b_Reader_readHead 88 = .ok (.ireturn, 1) := by decide +kernel
abbrev b_Reader_readAll : ByteArray := prog_5_method_2_code
def y_Reader_readAll : MethodName := ⟨"MaskLayers$Reader", "readAll", "()I"⟩
theorem d_Reader_readAll_0 : decode b_Reader_readAll 0 = .ok (.aload_n 0, 1) := by decide +kernel
theorem d_Reader_readAll_1 : decode b_Reader_readAll 1 = .ok (.iconst 0, 1) := by decide +kernel
theorem d_Reader_readAll_2 : decode b_Reader_readAll 2 = .ok (.putfield 26, 3) := by decide +kernel
theorem d_Reader_readAll_5 : decode b_Reader_readAll 5 = .ok (.aload_n 0, 1) := by decide +kernel
theorem d_Reader_readAll_6 : decode b_Reader_readAll 6 = .ok (.getfield 15, 3) := by decide +kernel
theorem d_Reader_readAll_9 : decode b_Reader_readAll 9 = .ok (.invokevirtual 30, 3) := by decide +kernel
theorem d_Reader_readAll_12 : decode b_Reader_readAll 12 = .ok (.aload_n 0, 1) := by decide +kernel
theorem d_Reader_readAll_13 : decode b_Reader_readAll 13 = .ok (.invokevirtual 35, 3) := by decide +kernel
theorem d_Reader_readAll_16 : decode b_Reader_readAll 16 = .ok (.istore_n 1, 1) := by decide +kernel
theorem d_Reader_readAll_17 : decode b_Reader_readAll 17 = .ok (.iconst 0, 1) := by decide +kernel
theorem d_Reader_readAll_18 : decode b_Reader_readAll 18 = .ok (.istore_n 2, 1) := by decide +kernel
theorem d_Reader_readAll_19 : decode b_Reader_readAll 19 = .ok (.iload_n 1, 1) := by decide +kernel
theorem d_Reader_readAll_20 : decode b_Reader_readAll 20 = .ok (.ifCond .eq 26, 3) := by decide +kernel
theorem d_Reader_readAll_23 : decode b_Reader_readAll 23 = .ok (.iload_n 2, 1) := by decide +kernel
theorem d_Reader_readAll_24 : decode b_Reader_readAll 24 = .ok (.aload_n 0, 1) := by decide +kernel
theorem d_Reader_readAll_25 : decode b_Reader_readAll 25 = .ok (.getfield 15, 3) := by decide +kernel
theorem d_Reader_readAll_28 : decode b_Reader_readAll 28 = .ok (.invokevirtual 39, 3) := by decide +kernel
theorem d_Reader_readAll_31 : decode b_Reader_readAll 31 = .ok (.if_icmp .ge 15, 3) := by decide +kernel
theorem d_Reader_readAll_34 : decode b_Reader_readAll 34 = .ok (.aload_n 0, 1) := by decide +kernel
theorem d_Reader_readAll_35 : decode b_Reader_readAll 35 = .ok (.iload_n 2, 1) := by decide +kernel
theorem d_Reader_readAll_36 : decode b_Reader_readAll 36 = .ok (.invokevirtual 43, 3) := by decide +kernel
theorem d_Reader_readAll_39 : decode b_Reader_readAll 39 = .ok (.istore_n 1, 1) := by decide +kernel
theorem d_Reader_readAll_40 : decode b_Reader_readAll 40 = .ok (.iinc 2 1, 3) := by decide +kernel
theorem d_Reader_readAll_43 : decode b_Reader_readAll 43 = .ok (.goto (-24), 3) := by decide +kernel
theorem d_Reader_readAll_46 : decode b_Reader_readAll 46 = .ok (.iload_n 1, 1) := by decide +kernel
theorem d_Reader_readAll_47 : decode b_Reader_readAll 47 = .ok (.ifCond .eq 26, 3) := by decide +kernel
theorem d_Reader_readAll_50 : decode b_Reader_readAll 50 = .ok (.aload_n 0, 1) := by decide +kernel
theorem d_Reader_readAll_51 : decode b_Reader_readAll 51 = .ok (.getfield 26, 3) := by decide +kernel
theorem d_Reader_readAll_54 : decode b_Reader_readAll 54 = .ok (.aload_n 0, 1) := by decide +kernel
theorem d_Reader_readAll_55 : decode b_Reader_readAll 55 = .ok (.getfield 9, 3) := by decide +kernel
theorem d_Reader_readAll_58 : decode b_Reader_readAll 58 = .ok (.getfield 47, 3) := by decide +kernel
theorem d_Reader_readAll_61 : decode b_Reader_readAll 61 = .ok (.if_icmp .ge 12, 3) := by decide +kernel
theorem d_Reader_readAll_64 : decode b_Reader_readAll 64 = .ok (.aload_n 0, 1) := by decide +kernel
theorem d_Reader_readAll_65 : decode b_Reader_readAll 65 = .ok (.aload_n 0, 1) := by decide +kernel
theorem d_Reader_readAll_66 : decode b_Reader_readAll 66 = .ok (.getfield 26, 3) := by decide +kernel
theorem d_Reader_readAll_69 : decode b_Reader_readAll 69 = .ok (.invokevirtual 52, 3) := by decide +kernel
theorem d_Reader_readAll_72 : decode b_Reader_readAll 72 = .ok (.istore_n 1, 1) := by decide +kernel
theorem d_Reader_readAll_73 : decode b_Reader_readAll 73 = .ok (.iload_n 1, 1) := by decide +kernel
theorem d_Reader_readAll_74 : decode b_Reader_readAll 74 = .ok (.ifCond .eq 11, 3) := by decide +kernel
theorem d_Reader_readAll_77 : decode b_Reader_readAll 77 = .ok (.aload_n 0, 1) := by decide +kernel
theorem d_Reader_readAll_78 : decode b_Reader_readAll 78 = .ok (.getfield 15, 3) := by decide +kernel
theorem d_Reader_readAll_81 : decode b_Reader_readAll 81 = .ok (.getfield 55, 3) := by decide +kernel
theorem d_Reader_readAll_84 : decode b_Reader_readAll 84 = .ok (.ireturn, 1) := by decide +kernel
theorem d_Reader_readAll_85 : decode b_Reader_readAll 85 = .ok (.aload_n 0, 1) := by decide +kernel
theorem d_Reader_readAll_86 : decode b_Reader_readAll 86 = .ok (.getfield 15, 3) := by decide +kernel
theorem d_Reader_readAll_89 : decode b_Reader_readAll 89 = .ok (.invokevirtual 30, 3) := by decide +kernel
theorem d_Reader_readAll_92 : decode b_Reader_readAll 92 = .ok (.iconst (-1), 1) := by decide +kernel
theorem d_Reader_readAll_93 : decode b_Reader_readAll 93 = .ok (.aload_n 0, 1) := by decide +kernel
theorem d_Reader_readAll_94 : decode b_Reader_readAll 94 = .ok (.getfield 56, 3) := by decide +kernel
theorem d_Reader_readAll_97 : decode b_Reader_readAll 97 = .ok (.isub, 1) := by decide +kernel
theorem d_Reader_readAll_98 : decode b_Reader_readAll 98 = .ok (.ireturn, 1) := by decide +kernel
abbrev b_ByteRow_append : ByteArray := prog_2_method_6_code
def y_ByteRow_append : MethodName := ⟨"MaskLayers$ByteRow", "append", "(I)V"⟩
theorem d_ByteRow_append_0 : decode b_ByteRow_append 0 = .ok (.aload_n 0, 1) := by decide +kernel
theorem d_ByteRow_append_1 : decode b_ByteRow_append 1 = .ok (.invokevirtual 23, 3) := by decide +kernel
theorem d_ByteRow_append_4 : decode b_ByteRow_append 4 = .ok (.iconst 1, 1) := by decide +kernel
theorem d_ByteRow_append_5 : decode b_ByteRow_append 5 = .ok (.if_icmp .ge 4, 3) := by decide +kernel
theorem d_ByteRow_append_8 : decode b_ByteRow_append 8 = .ok (.return_, 1) := by decide +kernel
theorem d_ByteRow_append_9 : decode b_ByteRow_append 9 = .ok (.aload_n 0, 1) := by decide +kernel
theorem d_ByteRow_append_10 : decode b_ByteRow_append 10 = .ok (.getfield 15, 3) := by decide +kernel
theorem d_ByteRow_append_13 : decode b_ByteRow_append 13 = .ok (.aload_n 0, 1) := by decide +kernel
theorem d_ByteRow_append_14 : decode b_ByteRow_append 14 = .ok (.getfield 9, 3) := by decide +kernel
theorem d_ByteRow_append_17 : decode b_ByteRow_append 17 = .ok (.arraylength, 1) := by decide +kernel
theorem d_ByteRow_append_18 : decode b_ByteRow_append 18 = .ok (.if_icmp .ne 29, 3) := by decide +kernel
theorem d_ByteRow_append_21 : decode b_ByteRow_append 21 = .ok (.aload_n 0, 1) := by decide +kernel
theorem d_ByteRow_append_22 : decode b_ByteRow_append 22 = .ok (.aload_n 0, 1) := by decide +kernel
theorem d_ByteRow_append_23 : decode b_ByteRow_append 23 = .ok (.getfield 9, 3) := by decide +kernel
theorem d_ByteRow_append_26 : decode b_ByteRow_append 26 = .ok (.sipush 6400, 3) := by decide +kernel
theorem d_ByteRow_append_29 : decode b_ByteRow_append 29 = .ok (.iconst 2, 1) := by decide +kernel
theorem d_ByteRow_append_30 : decode b_ByteRow_append 30 = .ok (.aload_n 0, 1) := by decide +kernel
theorem d_ByteRow_append_31 : decode b_ByteRow_append 31 = .ok (.getfield 15, 3) := by decide +kernel
theorem d_ByteRow_append_34 : decode b_ByteRow_append 34 = .ok (.imul, 1) := by decide +kernel
theorem d_ByteRow_append_35 : decode b_ByteRow_append 35 = .ok (.bipush 64, 2) := by decide +kernel
theorem d_ByteRow_append_37 : decode b_ByteRow_append 37 = .ok (.iadd, 1) := by decide +kernel
theorem d_ByteRow_append_38 : decode b_ByteRow_append 38 = .ok (.invokestatic 27, 3) := by decide +kernel
theorem d_ByteRow_append_41 : decode b_ByteRow_append 41 = .ok (.invokestatic 33, 3) := by decide +kernel
theorem d_ByteRow_append_44 : decode b_ByteRow_append 44 = .ok (.putfield 9, 3) := by decide +kernel
theorem d_ByteRow_append_47 : decode b_ByteRow_append 47 = .ok (.aload_n 0, 1) := by decide +kernel
theorem d_ByteRow_append_48 : decode b_ByteRow_append 48 = .ok (.getfield 9, 3) := by decide +kernel
theorem d_ByteRow_append_51 : decode b_ByteRow_append 51 = .ok (.aload_n 0, 1) := by decide +kernel
theorem d_ByteRow_append_52 : decode b_ByteRow_append 52 = .ok (.getfield 15, 3) := by decide +kernel
theorem d_ByteRow_append_55 : decode b_ByteRow_append 55 = .ok (.iload_n 1, 1) := by decide +kernel
theorem d_ByteRow_append_56 : decode b_ByteRow_append 56 = .ok (.iastore, 1) := by decide +kernel
theorem d_ByteRow_append_57 : decode b_ByteRow_append 57 = .ok (.aload_n 0, 1) := by decide +kernel
theorem d_ByteRow_append_58 : decode b_ByteRow_append 58 = .ok (.dup, 1) := by decide +kernel
theorem d_ByteRow_append_59 : decode b_ByteRow_append 59 = .ok (.getfield 15, 3) := by decide +kernel
theorem d_ByteRow_append_62 : decode b_ByteRow_append 62 = .ok (.iconst 1, 1) := by decide +kernel
theorem d_ByteRow_append_63 : decode b_ByteRow_append 63 = .ok (.iadd, 1) := by decide +kernel
theorem d_ByteRow_append_64 : decode b_ByteRow_append 64 = .ok (.putfield 15, 3) := by decide +kernel
theorem d_ByteRow_append_67 : decode b_ByteRow_append 67 = .ok (.return_, 1) := by decide +kernel
abbrev b_Writer_writeValue : ByteArray := prog_6_method_10_code
def y_Writer_writeValue : MethodName := ⟨"MaskLayers$Writer", "writeValue", "(II)V"⟩
theorem d_Writer_writeValue_0 : decode b_Writer_writeValue 0 = .ok (.iload_n 1, 1) := by decide +kernel
theorem d_Writer_writeValue_1 : decode b_Writer_writeValue 1 = .ok (.iconst 1, 1) := by decide +kernel
theorem d_Writer_writeValue_2 : decode b_Writer_writeValue 2 = .ok (.if_icmp .eq 25, 3) := by decide +kernel
theorem d_Writer_writeValue_5 : decode b_Writer_writeValue 5 = .ok (.aload_n 0, 1) := by decide +kernel
theorem d_Writer_writeValue_6 : decode b_Writer_writeValue 6 = .ok (.getfield 15, 3) := by decide +kernel
theorem d_Writer_writeValue_9 : decode b_Writer_writeValue 9 = .ok (.iload_n 2, 1) := by decide +kernel
theorem d_Writer_writeValue_10 : decode b_Writer_writeValue 10 = .ok (.invokestatic 103, 3) := by decide +kernel
theorem d_Writer_writeValue_13 : decode b_Writer_writeValue 13 = .ok (.invokevirtual 41, 3) := by decide +kernel
theorem d_Writer_writeValue_16 : decode b_Writer_writeValue 16 = .ok (.aload_n 0, 1) := by decide +kernel
theorem d_Writer_writeValue_17 : decode b_Writer_writeValue 17 = .ok (.getfield 15, 3) := by decide +kernel
theorem d_Writer_writeValue_20 : decode b_Writer_writeValue 20 = .ok (.iload_n 2, 1) := by decide +kernel
theorem d_Writer_writeValue_21 : decode b_Writer_writeValue 21 = .ok (.invokestatic 106, 3) := by decide +kernel
theorem d_Writer_writeValue_24 : decode b_Writer_writeValue 24 = .ok (.invokevirtual 41, 3) := by decide +kernel
theorem d_Writer_writeValue_27 : decode b_Writer_writeValue 27 = .ok (.aload_n 0, 1) := by decide +kernel
theorem d_Writer_writeValue_28 : decode b_Writer_writeValue 28 = .ok (.getfield 15, 3) := by decide +kernel
theorem d_Writer_writeValue_31 : decode b_Writer_writeValue 31 = .ok (.iload_n 2, 1) := by decide +kernel
theorem d_Writer_writeValue_32 : decode b_Writer_writeValue 32 = .ok (.invokestatic 109, 3) := by decide +kernel
theorem d_Writer_writeValue_35 : decode b_Writer_writeValue 35 = .ok (.invokevirtual 41, 3) := by decide +kernel
theorem d_Writer_writeValue_38 : decode b_Writer_writeValue 38 = .ok (.return_, 1) := by decide +kernel
abbrev b_Writer_writeValues : ByteArray := prog_6_method_9_code
def y_Writer_writeValues : MethodName := ⟨"MaskLayers$Writer", "writeValues", "(III)V"⟩
theorem d_Writer_writeValues_0 : decode b_Writer_writeValues 0 = .ok (.iload_n 2, 1) := by decide +kernel
theorem d_Writer_writeValues_1 : decode b_Writer_writeValues 1 = .ok (.istore 4, 2) := by decide +kernel
theorem d_Writer_writeValues_3 : decode b_Writer_writeValues 3 = .ok (.iload 4, 2) := by decide +kernel
theorem d_Writer_writeValues_5 : decode b_Writer_writeValues 5 = .ok (.iload_n 3, 1) := by decide +kernel
theorem d_Writer_writeValues_6 : decode b_Writer_writeValues 6 = .ok (.if_icmp .ge 26, 3) := by decide +kernel
theorem d_Writer_writeValues_9 : decode b_Writer_writeValues 9 = .ok (.aload_n 0, 1) := by decide +kernel
theorem d_Writer_writeValues_10 : decode b_Writer_writeValues 10 = .ok (.iload_n 1, 1) := by decide +kernel
theorem d_Writer_writeValues_11 : decode b_Writer_writeValues 11 = .ok (.aload_n 0, 1) := by decide +kernel
theorem d_Writer_writeValues_12 : decode b_Writer_writeValues 12 = .ok (.getfield 9, 3) := by decide +kernel
theorem d_Writer_writeValues_15 : decode b_Writer_writeValues 15 = .ok (.getfield 73, 3) := by decide +kernel
theorem d_Writer_writeValues_18 : decode b_Writer_writeValues 18 = .ok (.iload_n 1, 1) := by decide +kernel
theorem d_Writer_writeValues_19 : decode b_Writer_writeValues 19 = .ok (.aaload, 1) := by decide +kernel
theorem d_Writer_writeValues_20 : decode b_Writer_writeValues 20 = .ok (.iload 4, 2) := by decide +kernel
theorem d_Writer_writeValues_22 : decode b_Writer_writeValues 22 = .ok (.iaload, 1) := by decide +kernel
theorem d_Writer_writeValues_23 : decode b_Writer_writeValues 23 = .ok (.invokevirtual 100, 3) := by decide +kernel
theorem d_Writer_writeValues_26 : decode b_Writer_writeValues 26 = .ok (.iinc 4 1, 3) := by decide +kernel
theorem d_Writer_writeValues_29 : decode b_Writer_writeValues 29 = .ok (.goto (-26), 3) := by decide +kernel
theorem d_Writer_writeValues_32 : decode b_Writer_writeValues 32 = .ok (.return_, 1) := by decide +kernel
abbrev b_Writer_writeRuns : ByteArray := prog_6_method_7_code
def y_Writer_writeRuns : MethodName := ⟨"MaskLayers$Writer", "writeRuns", "(III)V"⟩
theorem d_Writer_writeRuns_0 : decode b_Writer_writeRuns 0 = .ok (.aload_n 0, 1) := by decide +kernel
theorem d_Writer_writeRuns_1 : decode b_Writer_writeRuns 1 = .ok (.getfield 9, 3) := by decide +kernel
theorem d_Writer_writeRuns_4 : decode b_Writer_writeRuns 4 = .ok (.getfield 73, 3) := by decide +kernel
theorem d_Writer_writeRuns_7 : decode b_Writer_writeRuns 7 = .ok (.iload_n 1, 1) := by decide +kernel
theorem d_Writer_writeRuns_8 : decode b_Writer_writeRuns 8 = .ok (.aaload, 1) := by decide +kernel
theorem d_Writer_writeRuns_9 : decode b_Writer_writeRuns 9 = .ok (.astore 4, 2) := by decide +kernel
theorem d_Writer_writeRuns_11 : decode b_Writer_writeRuns 11 = .ok (.iconst 0, 1) := by decide +kernel
theorem d_Writer_writeRuns_12 : decode b_Writer_writeRuns 12 = .ok (.istore 5, 2) := by decide +kernel
theorem d_Writer_writeRuns_14 : decode b_Writer_writeRuns 14 = .ok (.iload_n 2, 1) := by decide +kernel
theorem d_Writer_writeRuns_15 : decode b_Writer_writeRuns 15 = .ok (.istore 6, 2) := by decide +kernel
theorem d_Writer_writeRuns_17 : decode b_Writer_writeRuns 17 = .ok (.iload 6, 2) := by decide +kernel
theorem d_Writer_writeRuns_19 : decode b_Writer_writeRuns 19 = .ok (.iload_n 3, 1) := by decide +kernel
theorem d_Writer_writeRuns_20 : decode b_Writer_writeRuns 20 = .ok (.if_icmp .ge 47, 3) := by decide +kernel
theorem d_Writer_writeRuns_23 : decode b_Writer_writeRuns 23 = .ok (.iinc 5 1, 3) := by decide +kernel
theorem d_Writer_writeRuns_26 : decode b_Writer_writeRuns 26 = .ok (.aload 4, 2) := by decide +kernel
theorem d_Writer_writeRuns_28 : decode b_Writer_writeRuns 28 = .ok (.iload 6, 2) := by decide +kernel
theorem d_Writer_writeRuns_30 : decode b_Writer_writeRuns 30 = .ok (.iload_n 3, 1) := by decide +kernel
theorem d_Writer_writeRuns_31 : decode b_Writer_writeRuns 31 = .ok (.iload 5, 2) := by decide +kernel
theorem d_Writer_writeRuns_33 : decode b_Writer_writeRuns 33 = .ok (.invokestatic 96, 3) := by decide +kernel
theorem d_Writer_writeRuns_36 : decode b_Writer_writeRuns 36 = .ok (.ifCond .eq 25, 3) := by decide +kernel
theorem d_Writer_writeRuns_39 : decode b_Writer_writeRuns 39 = .ok (.aload_n 0, 1) := by decide +kernel
theorem d_Writer_writeRuns_40 : decode b_Writer_writeRuns 40 = .ok (.getfield 15, 3) := by decide +kernel
theorem d_Writer_writeRuns_43 : decode b_Writer_writeRuns 43 = .ok (.iload 5, 2) := by decide +kernel
theorem d_Writer_writeRuns_45 : decode b_Writer_writeRuns 45 = .ok (.invokevirtual 41, 3) := by decide +kernel
theorem d_Writer_writeRuns_48 : decode b_Writer_writeRuns 48 = .ok (.aload_n 0, 1) := by decide +kernel
theorem d_Writer_writeRuns_49 : decode b_Writer_writeRuns 49 = .ok (.iload_n 1, 1) := by decide +kernel
theorem d_Writer_writeRuns_50 : decode b_Writer_writeRuns 50 = .ok (.aload 4, 2) := by decide +kernel
theorem d_Writer_writeRuns_52 : decode b_Writer_writeRuns 52 = .ok (.iload 6, 2) := by decide +kernel
theorem d_Writer_writeRuns_54 : decode b_Writer_writeRuns 54 = .ok (.iaload, 1) := by decide +kernel
theorem d_Writer_writeRuns_55 : decode b_Writer_writeRuns 55 = .ok (.invokevirtual 100, 3) := by decide +kernel
theorem d_Writer_writeRuns_58 : decode b_Writer_writeRuns 58 = .ok (.iconst 0, 1) := by decide +kernel
theorem d_Writer_writeRuns_59 : decode b_Writer_writeRuns 59 = .ok (.istore 5, 2) := by decide +kernel
theorem d_Writer_writeRuns_61 : decode b_Writer_writeRuns 61 = .ok (.iinc 6 1, 3) := by decide +kernel
theorem d_Writer_writeRuns_64 : decode b_Writer_writeRuns 64 = .ok (.goto (-47), 3) := by decide +kernel
theorem d_Writer_writeRuns_67 : decode b_Writer_writeRuns 67 = .ok (.return_, 1) := by decide +kernel
abbrev b_Writer_writeBits : ByteArray := prog_6_method_8_code
def y_Writer_writeBits : MethodName := ⟨"MaskLayers$Writer", "writeBits", "(II)V"⟩
theorem d_Writer_writeBits_0 : decode b_Writer_writeBits 0 = .ok (.aload_n 0, 1) := by decide +kernel
theorem d_Writer_writeBits_1 : decode b_Writer_writeBits 1 = .ok (.getfield 9, 3) := by decide +kernel
theorem d_Writer_writeBits_4 : decode b_Writer_writeBits 4 = .ok (.getfield 73, 3) := by decide +kernel
theorem d_Writer_writeBits_7 : decode b_Writer_writeBits 7 = .ok (.iconst 1, 1) := by decide +kernel
theorem d_Writer_writeBits_8 : decode b_Writer_writeBits 8 = .ok (.aaload, 1) := by decide +kernel
theorem d_Writer_writeBits_9 : decode b_Writer_writeBits 9 = .ok (.astore_n 3, 1) := by decide +kernel
theorem d_Writer_writeBits_10 : decode b_Writer_writeBits 10 = .ok (.iload_n 1, 1) := by decide +kernel
theorem d_Writer_writeBits_11 : decode b_Writer_writeBits 11 = .ok (.istore 4, 2) := by decide +kernel
theorem d_Writer_writeBits_13 : decode b_Writer_writeBits 13 = .ok (.iload 4, 2) := by decide +kernel
theorem d_Writer_writeBits_15 : decode b_Writer_writeBits 15 = .ok (.iload_n 2, 1) := by decide +kernel
theorem d_Writer_writeBits_16 : decode b_Writer_writeBits 16 = .ok (.if_icmp .ge 62, 3) := by decide +kernel
theorem d_Writer_writeBits_19 : decode b_Writer_writeBits 19 = .ok (.iconst 0, 1) := by decide +kernel
theorem d_Writer_writeBits_20 : decode b_Writer_writeBits 20 = .ok (.istore 5, 2) := by decide +kernel
theorem d_Writer_writeBits_22 : decode b_Writer_writeBits 22 = .ok (.iload 4, 2) := by decide +kernel
theorem d_Writer_writeBits_24 : decode b_Writer_writeBits 24 = .ok (.istore 6, 2) := by decide +kernel
theorem d_Writer_writeBits_26 : decode b_Writer_writeBits 26 = .ok (.iload 6, 2) := by decide +kernel
theorem d_Writer_writeBits_28 : decode b_Writer_writeBits 28 = .ok (.iload 4, 2) := by decide +kernel
theorem d_Writer_writeBits_30 : decode b_Writer_writeBits 30 = .ok (.bipush 8, 2) := by decide +kernel
theorem d_Writer_writeBits_32 : decode b_Writer_writeBits 32 = .ok (.iadd, 1) := by decide +kernel
theorem d_Writer_writeBits_33 : decode b_Writer_writeBits 33 = .ok (.if_icmp .ge 30, 3) := by decide +kernel
theorem d_Writer_writeBits_36 : decode b_Writer_writeBits 36 = .ok (.iload 5, 2) := by decide +kernel
theorem d_Writer_writeBits_38 : decode b_Writer_writeBits 38 = .ok (.iconst 1, 1) := by decide +kernel
theorem d_Writer_writeBits_39 : decode b_Writer_writeBits 39 = .ok (.ishl, 1) := by decide +kernel
theorem d_Writer_writeBits_40 : decode b_Writer_writeBits 40 = .ok (.iload 6, 2) := by decide +kernel
theorem d_Writer_writeBits_42 : decode b_Writer_writeBits 42 = .ok (.iload_n 2, 1) := by decide +kernel
theorem d_Writer_writeBits_43 : decode b_Writer_writeBits 43 = .ok (.if_icmp .ge 10, 3) := by decide +kernel
theorem d_Writer_writeBits_46 : decode b_Writer_writeBits 46 = .ok (.aload_n 3, 1) := by decide +kernel
theorem d_Writer_writeBits_47 : decode b_Writer_writeBits 47 = .ok (.iload 6, 2) := by decide +kernel
theorem d_Writer_writeBits_49 : decode b_Writer_writeBits 49 = .ok (.iaload, 1) := by decide +kernel
theorem d_Writer_writeBits_50 : decode b_Writer_writeBits 50 = .ok (.goto 4, 3) := by decide +kernel
theorem d_Writer_writeBits_53 : decode b_Writer_writeBits 53 = .ok (.iconst 0, 1) := by decide +kernel
theorem d_Writer_writeBits_54 : decode b_Writer_writeBits 54 = .ok (.ior, 1) := by decide +kernel
theorem d_Writer_writeBits_55 : decode b_Writer_writeBits 55 = .ok (.istore 5, 2) := by decide +kernel
theorem d_Writer_writeBits_57 : decode b_Writer_writeBits 57 = .ok (.iinc 6 1, 3) := by decide +kernel
theorem d_Writer_writeBits_60 : decode b_Writer_writeBits 60 = .ok (.goto (-34), 3) := by decide +kernel
theorem d_Writer_writeBits_63 : decode b_Writer_writeBits 63 = .ok (.aload_n 0, 1) := by decide +kernel
theorem d_Writer_writeBits_64 : decode b_Writer_writeBits 64 = .ok (.getfield 15, 3) := by decide +kernel
theorem d_Writer_writeBits_67 : decode b_Writer_writeBits 67 = .ok (.iload 5, 2) := by decide +kernel
theorem d_Writer_writeBits_69 : decode b_Writer_writeBits 69 = .ok (.invokevirtual 41, 3) := by decide +kernel
theorem d_Writer_writeBits_72 : decode b_Writer_writeBits 72 = .ok (.iinc 4 8, 3) := by decide +kernel
theorem d_Writer_writeBits_75 : decode b_Writer_writeBits 75 = .ok (.goto (-62), 3) := by decide +kernel
theorem d_Writer_writeBits_78 : decode b_Writer_writeBits 78 = .ok (.return_, 1) := by decide +kernel
abbrev b_Writer_writeHead : ByteArray := prog_6_method_3_code
def y_Writer_writeHead : MethodName := ⟨"MaskLayers$Writer", "writeHead", "()V"⟩
theorem d_Writer_writeHead_0 : decode b_Writer_writeHead 0 = .ok (.aload_n 0, 1) := by decide +kernel
theorem d_Writer_writeHead_1 : decode b_Writer_writeHead 1 = .ok (.getfield 15, 3) := by decide +kernel
theorem d_Writer_writeHead_4 : decode b_Writer_writeHead 4 = .ok (.bipush 77, 2) := by decide +kernel
theorem d_Writer_writeHead_6 : decode b_Writer_writeHead 6 = .ok (.invokevirtual 41, 3) := by decide +kernel
theorem d_Writer_writeHead_9 : decode b_Writer_writeHead 9 = .ok (.aload_n 0, 1) := by decide +kernel
theorem d_Writer_writeHead_10 : decode b_Writer_writeHead 10 = .ok (.getfield 15, 3) := by decide +kernel
theorem d_Writer_writeHead_13 : decode b_Writer_writeHead 13 = .ok (.bipush 76, 2) := by decide +kernel
theorem d_Writer_writeHead_15 : decode b_Writer_writeHead 15 = .ok (.invokevirtual 41, 3) := by decide +kernel
theorem d_Writer_writeHead_18 : decode b_Writer_writeHead 18 = .ok (.aload_n 0, 1) := by decide +kernel
theorem d_Writer_writeHead_19 : decode b_Writer_writeHead 19 = .ok (.getfield 15, 3) := by decide +kernel
theorem d_Writer_writeHead_22 : decode b_Writer_writeHead 22 = .ok (.aload_n 0, 1) := by decide +kernel
theorem d_Writer_writeHead_23 : decode b_Writer_writeHead 23 = .ok (.getfield 9, 3) := by decide +kernel
theorem d_Writer_writeHead_26 : decode b_Writer_writeHead 26 = .ok (.getfield 49, 3) := by decide +kernel
theorem d_Writer_writeHead_29 : decode b_Writer_writeHead 29 = .ok (.invokevirtual 41, 3) := by decide +kernel
theorem d_Writer_writeHead_32 : decode b_Writer_writeHead 32 = .ok (.aload_n 0, 1) := by decide +kernel
theorem d_Writer_writeHead_33 : decode b_Writer_writeHead 33 = .ok (.getfield 15, 3) := by decide +kernel
theorem d_Writer_writeHead_36 : decode b_Writer_writeHead 36 = .ok (.aload_n 0, 1) := by decide +kernel
theorem d_Writer_writeHead_37 : decode b_Writer_writeHead 37 = .ok (.getfield 9, 3) := by decide +kernel
theorem d_Writer_writeHead_40 : decode b_Writer_writeHead 40 = .ok (.getfield 52, 3) := by decide +kernel
theorem d_Writer_writeHead_43 : decode b_Writer_writeHead 43 = .ok (.invokevirtual 41, 3) := by decide +kernel
theorem d_Writer_writeHead_46 : decode b_Writer_writeHead 46 = .ok (.aload_n 0, 1) := by decide +kernel
theorem d_Writer_writeHead_47 : decode b_Writer_writeHead 47 = .ok (.getfield 15, 3) := by decide +kernel
theorem d_Writer_writeHead_50 : decode b_Writer_writeHead 50 = .ok (.aload_n 0, 1) := by decide +kernel
theorem d_Writer_writeHead_51 : decode b_Writer_writeHead 51 = .ok (.getfield 9, 3) := by decide +kernel
theorem d_Writer_writeHead_54 : decode b_Writer_writeHead 54 = .ok (.getfield 55, 3) := by decide +kernel
theorem d_Writer_writeHead_57 : decode b_Writer_writeHead 57 = .ok (.invokevirtual 41, 3) := by decide +kernel
theorem d_Writer_writeHead_60 : decode b_Writer_writeHead 60 = .ok (.aload_n 0, 1) := by decide +kernel
theorem d_Writer_writeHead_61 : decode b_Writer_writeHead 61 = .ok (.getfield 15, 3) := by decide +kernel
theorem d_Writer_writeHead_64 : decode b_Writer_writeHead 64 = .ok (.aload_n 0, 1) := by decide +kernel
theorem d_Writer_writeHead_65 : decode b_Writer_writeHead 65 = .ok (.getfield 9, 3) := by decide +kernel
theorem d_Writer_writeHead_68 : decode b_Writer_writeHead 68 = .ok (.getfield 58, 3) := by decide +kernel
theorem d_Writer_writeHead_71 : decode b_Writer_writeHead 71 = .ok (.iconst 2, 1) := by decide +kernel
theorem d_Writer_writeHead_72 : decode b_Writer_writeHead 72 = .ok (.iaload, 1) := by decide +kernel
theorem d_Writer_writeHead_73 : decode b_Writer_writeHead 73 = .ok (.invokevirtual 41, 3) := by decide +kernel
theorem d_Writer_writeHead_76 : decode b_Writer_writeHead 76 = .ok (.aload_n 0, 1) := by decide +kernel
theorem d_Writer_writeHead_77 : decode b_Writer_writeHead 77 = .ok (.getfield 15, 3) := by decide +kernel
theorem d_Writer_writeHead_80 : decode b_Writer_writeHead 80 = .ok (.aload_n 0, 1) := by decide +kernel
theorem d_Writer_writeHead_81 : decode b_Writer_writeHead 81 = .ok (.getfield 9, 3) := by decide +kernel
theorem d_Writer_writeHead_84 : decode b_Writer_writeHead 84 = .ok (.getfield 58, 3) := by decide +kernel
theorem d_Writer_writeHead_87 : decode b_Writer_writeHead 87 = .ok (.iconst 0, 1) := by decide +kernel
theorem d_Writer_writeHead_88 : decode b_Writer_writeHead 88 = .ok (.iaload, 1) := by decide +kernel
theorem d_Writer_writeHead_89 : decode b_Writer_writeHead 89 = .ok (.invokevirtual 41, 3) := by decide +kernel
theorem d_Writer_writeHead_92 : decode b_Writer_writeHead 92 = .ok (.return_, 1) := by decide +kernel
abbrev b_Writer_writeLayer : ByteArray := prog_6_method_4_code
def y_Writer_writeLayer : MethodName := ⟨"MaskLayers$Writer", "writeLayer", "(II)V"⟩
theorem d_Writer_writeLayer_0 : decode b_Writer_writeLayer 0 = .ok (.aload_n 0, 1) := by decide +kernel
theorem d_Writer_writeLayer_1 : decode b_Writer_writeLayer 1 = .ok (.getfield 9, 3) := by decide +kernel
theorem d_Writer_writeLayer_4 : decode b_Writer_writeLayer 4 = .ok (.iload_n 1, 1) := by decide +kernel
theorem d_Writer_writeLayer_5 : decode b_Writer_writeLayer 5 = .ok (.invokevirtual 62, 3) := by decide +kernel
theorem d_Writer_writeLayer_8 : decode b_Writer_writeLayer 8 = .ok (.istore_n 3, 1) := by decide +kernel
theorem d_Writer_writeLayer_9 : decode b_Writer_writeLayer 9 = .ok (.aload_n 0, 1) := by decide +kernel
theorem d_Writer_writeLayer_10 : decode b_Writer_writeLayer 10 = .ok (.getfield 9, 3) := by decide +kernel
theorem d_Writer_writeLayer_13 : decode b_Writer_writeLayer 13 = .ok (.iload_n 1, 1) := by decide +kernel
theorem d_Writer_writeLayer_14 : decode b_Writer_writeLayer 14 = .ok (.iload_n 2, 1) := by decide +kernel
theorem d_Writer_writeLayer_15 : decode b_Writer_writeLayer 15 = .ok (.invokevirtual 66, 3) := by decide +kernel
theorem d_Writer_writeLayer_18 : decode b_Writer_writeLayer 18 = .ok (.istore 4, 2) := by decide +kernel
theorem d_Writer_writeLayer_20 : decode b_Writer_writeLayer 20 = .ok (.iload_n 2, 1) := by decide +kernel
theorem d_Writer_writeLayer_21 : decode b_Writer_writeLayer 21 = .ok (.iload 4, 2) := by decide +kernel
theorem d_Writer_writeLayer_23 : decode b_Writer_writeLayer 23 = .ok (.iload_n 3, 1) := by decide +kernel
theorem d_Writer_writeLayer_24 : decode b_Writer_writeLayer 24 = .ok (.isub, 1) := by decide +kernel
theorem d_Writer_writeLayer_25 : decode b_Writer_writeLayer 25 = .ok (.invokestatic 70, 3) := by decide +kernel
theorem d_Writer_writeLayer_28 : decode b_Writer_writeLayer 28 = .ok (.istore 5, 2) := by decide +kernel
theorem d_Writer_writeLayer_30 : decode b_Writer_writeLayer 30 = .ok (.aload_n 0, 1) := by decide +kernel
theorem d_Writer_writeLayer_31 : decode b_Writer_writeLayer 31 = .ok (.getfield 9, 3) := by decide +kernel
theorem d_Writer_writeLayer_34 : decode b_Writer_writeLayer 34 = .ok (.getfield 73, 3) := by decide +kernel
theorem d_Writer_writeLayer_37 : decode b_Writer_writeLayer 37 = .ok (.iload_n 2, 1) := by decide +kernel
theorem d_Writer_writeLayer_38 : decode b_Writer_writeLayer 38 = .ok (.aaload, 1) := by decide +kernel
theorem d_Writer_writeLayer_39 : decode b_Writer_writeLayer 39 = .ok (.iload_n 3, 1) := by decide +kernel
theorem d_Writer_writeLayer_40 : decode b_Writer_writeLayer 40 = .ok (.iload 4, 2) := by decide +kernel
theorem d_Writer_writeLayer_42 : decode b_Writer_writeLayer 42 = .ok (.invokestatic 77, 3) := by decide +kernel
theorem d_Writer_writeLayer_45 : decode b_Writer_writeLayer 45 = .ok (.iload_n 2, 1) := by decide +kernel
theorem d_Writer_writeLayer_46 : decode b_Writer_writeLayer 46 = .ok (.iconst 1, 1) := by decide +kernel
theorem d_Writer_writeLayer_47 : decode b_Writer_writeLayer 47 = .ok (.if_icmp .ne 7, 3) := by decide +kernel
theorem d_Writer_writeLayer_50 : decode b_Writer_writeLayer 50 = .ok (.iconst 2, 1) := by decide +kernel
theorem d_Writer_writeLayer_51 : decode b_Writer_writeLayer 51 = .ok (.goto 4, 3) := by decide +kernel
theorem d_Writer_writeLayer_54 : decode b_Writer_writeLayer 54 = .ok (.iconst 4, 1) := by decide +kernel
theorem d_Writer_writeLayer_55 : decode b_Writer_writeLayer 55 = .ok (.imul, 1) := by decide +kernel
theorem d_Writer_writeLayer_56 : decode b_Writer_writeLayer 56 = .ok (.istore 6, 2) := by decide +kernel
theorem d_Writer_writeLayer_58 : decode b_Writer_writeLayer 58 = .ok (.aload_n 0, 1) := by decide +kernel
theorem d_Writer_writeLayer_59 : decode b_Writer_writeLayer 59 = .ok (.getfield 15, 3) := by decide +kernel
theorem d_Writer_writeLayer_62 : decode b_Writer_writeLayer 62 = .ok (.sipush 160, 3) := by decide +kernel
theorem d_Writer_writeLayer_65 : decode b_Writer_writeLayer 65 = .ok (.iload_n 2, 1) := by decide +kernel
theorem d_Writer_writeLayer_66 : decode b_Writer_writeLayer 66 = .ok (.iadd, 1) := by decide +kernel
theorem d_Writer_writeLayer_67 : decode b_Writer_writeLayer 67 = .ok (.invokevirtual 41, 3) := by decide +kernel
theorem d_Writer_writeLayer_70 : decode b_Writer_writeLayer 70 = .ok (.aload_n 0, 1) := by decide +kernel
theorem d_Writer_writeLayer_71 : decode b_Writer_writeLayer 71 = .ok (.getfield 15, 3) := by decide +kernel
theorem d_Writer_writeLayer_74 : decode b_Writer_writeLayer 74 = .ok (.iload 6, 2) := by decide +kernel
theorem d_Writer_writeLayer_76 : decode b_Writer_writeLayer 76 = .ok (.iload 5, 2) := by decide +kernel
theorem d_Writer_writeLayer_78 : decode b_Writer_writeLayer 78 = .ok (.if_icmp .ge 7, 3) := by decide +kernel
theorem d_Writer_writeLayer_81 : decode b_Writer_writeLayer 81 = .ok (.iconst 1, 1) := by decide +kernel
theorem d_Writer_writeLayer_82 : decode b_Writer_writeLayer 82 = .ok (.goto 4, 3) := by decide +kernel
theorem d_Writer_writeLayer_85 : decode b_Writer_writeLayer 85 = .ok (.iconst 0, 1) := by decide +kernel
theorem d_Writer_writeLayer_86 : decode b_Writer_writeLayer 86 = .ok (.invokevirtual 41, 3) := by decide +kernel
theorem d_Writer_writeLayer_89 : decode b_Writer_writeLayer 89 = .ok (.aload_n 0, 1) := by decide +kernel
theorem d_Writer_writeLayer_90 : decode b_Writer_writeLayer 90 = .ok (.getfield 15, 3) := by decide +kernel
theorem d_Writer_writeLayer_93 : decode b_Writer_writeLayer 93 = .ok (.iload 6, 2) := by decide +kernel
theorem d_Writer_writeLayer_95 : decode b_Writer_writeLayer 95 = .ok (.iload 5, 2) := by decide +kernel
theorem d_Writer_writeLayer_97 : decode b_Writer_writeLayer 97 = .ok (.invokestatic 81, 3) := by decide +kernel
theorem d_Writer_writeLayer_100 : decode b_Writer_writeLayer 100 = .ok (.sipush 255, 3) := by decide +kernel
theorem d_Writer_writeLayer_103 : decode b_Writer_writeLayer 103 = .ok (.iand, 1) := by decide +kernel
theorem d_Writer_writeLayer_104 : decode b_Writer_writeLayer 104 = .ok (.invokevirtual 41, 3) := by decide +kernel
theorem d_Writer_writeLayer_107 : decode b_Writer_writeLayer 107 = .ok (.aload_n 0, 1) := by decide +kernel
theorem d_Writer_writeLayer_108 : decode b_Writer_writeLayer 108 = .ok (.getfield 15, 3) := by decide +kernel
theorem d_Writer_writeLayer_111 : decode b_Writer_writeLayer 111 = .ok (.iload 6, 2) := by decide +kernel
theorem d_Writer_writeLayer_113 : decode b_Writer_writeLayer 113 = .ok (.iload 5, 2) := by decide +kernel
theorem d_Writer_writeLayer_115 : decode b_Writer_writeLayer 115 = .ok (.invokestatic 81, 3) := by decide +kernel
theorem d_Writer_writeLayer_118 : decode b_Writer_writeLayer 118 = .ok (.bipush 8, 2) := by decide +kernel
theorem d_Writer_writeLayer_120 : decode b_Writer_writeLayer 120 = .ok (.ishr, 1) := by decide +kernel
theorem d_Writer_writeLayer_121 : decode b_Writer_writeLayer 121 = .ok (.invokevirtual 41, 3) := by decide +kernel
theorem d_Writer_writeLayer_124 : decode b_Writer_writeLayer 124 = .ok (.iload 6, 2) := by decide +kernel
theorem d_Writer_writeLayer_126 : decode b_Writer_writeLayer 126 = .ok (.iload 5, 2) := by decide +kernel
theorem d_Writer_writeLayer_128 : decode b_Writer_writeLayer 128 = .ok (.if_icmp .ge 14, 3) := by decide +kernel
theorem d_Writer_writeLayer_131 : decode b_Writer_writeLayer 131 = .ok (.aload_n 0, 1) := by decide +kernel
theorem d_Writer_writeLayer_132 : decode b_Writer_writeLayer 132 = .ok (.iload_n 2, 1) := by decide +kernel
theorem d_Writer_writeLayer_133 : decode b_Writer_writeLayer 133 = .ok (.iload_n 3, 1) := by decide +kernel
theorem d_Writer_writeLayer_134 : decode b_Writer_writeLayer 134 = .ok (.iload 4, 2) := by decide +kernel
theorem d_Writer_writeLayer_136 : decode b_Writer_writeLayer 136 = .ok (.invokevirtual 86, 3) := by decide +kernel
theorem d_Writer_writeLayer_139 : decode b_Writer_writeLayer 139 = .ok (.goto 26, 3) := by decide +kernel
theorem d_Writer_writeLayer_142 : decode b_Writer_writeLayer 142 = .ok (.iload_n 2, 1) := by decide +kernel
theorem d_Writer_writeLayer_143 : decode b_Writer_writeLayer 143 = .ok (.iconst 1, 1) := by decide +kernel
theorem d_Writer_writeLayer_144 : decode b_Writer_writeLayer 144 = .ok (.if_icmp .ne 13, 3) := by decide +kernel
theorem d_Writer_writeLayer_147 : decode b_Writer_writeLayer 147 = .ok (.aload_n 0, 1) := by decide +kernel
theorem d_Writer_writeLayer_148 : decode b_Writer_writeLayer 148 = .ok (.iload_n 3, 1) := by decide +kernel
theorem d_Writer_writeLayer_149 : decode b_Writer_writeLayer 149 = .ok (.iload 4, 2) := by decide +kernel
theorem d_Writer_writeLayer_151 : decode b_Writer_writeLayer 151 = .ok (.invokevirtual 90, 3) := by decide +kernel
theorem d_Writer_writeLayer_154 : decode b_Writer_writeLayer 154 = .ok (.goto 11, 3) := by decide +kernel
theorem d_Writer_writeLayer_157 : decode b_Writer_writeLayer 157 = .ok (.aload_n 0, 1) := by decide +kernel
theorem d_Writer_writeLayer_158 : decode b_Writer_writeLayer 158 = .ok (.iload_n 2, 1) := by decide +kernel
theorem d_Writer_writeLayer_159 : decode b_Writer_writeLayer 159 = .ok (.iload_n 3, 1) := by decide +kernel
theorem d_Writer_writeLayer_160 : decode b_Writer_writeLayer 160 = .ok (.iload 4, 2) := by decide +kernel
theorem d_Writer_writeLayer_162 : decode b_Writer_writeLayer 162 = .ok (.invokevirtual 93, 3) := by decide +kernel
theorem d_Writer_writeLayer_165 : decode b_Writer_writeLayer 165 = .ok (.return_, 1) := by decide +kernel
abbrev b_Writer_writeAll : ByteArray := prog_6_method_2_code
def y_Writer_writeAll : MethodName := ⟨"MaskLayers$Writer", "writeAll", "()I"⟩
theorem d_Writer_writeAll_0 : decode b_Writer_writeAll 0 = .ok (.aload_n 0, 1) := by decide +kernel
theorem d_Writer_writeAll_1 : decode b_Writer_writeAll 1 = .ok (.getfield 15, 3) := by decide +kernel
theorem d_Writer_writeAll_4 : decode b_Writer_writeAll 4 = .ok (.invokevirtual 19, 3) := by decide +kernel
theorem d_Writer_writeAll_7 : decode b_Writer_writeAll 7 = .ok (.aload_n 0, 1) := by decide +kernel
theorem d_Writer_writeAll_8 : decode b_Writer_writeAll 8 = .ok (.invokevirtual 24, 3) := by decide +kernel
theorem d_Writer_writeAll_11 : decode b_Writer_writeAll 11 = .ok (.iconst 0, 1) := by decide +kernel
theorem d_Writer_writeAll_12 : decode b_Writer_writeAll 12 = .ok (.istore_n 1, 1) := by decide +kernel
theorem d_Writer_writeAll_13 : decode b_Writer_writeAll 13 = .ok (.iload_n 1, 1) := by decide +kernel
theorem d_Writer_writeAll_14 : decode b_Writer_writeAll 14 = .ok (.aload_n 0, 1) := by decide +kernel
theorem d_Writer_writeAll_15 : decode b_Writer_writeAll 15 = .ok (.getfield 9, 3) := by decide +kernel
theorem d_Writer_writeAll_18 : decode b_Writer_writeAll 18 = .ok (.invokevirtual 27, 3) := by decide +kernel
theorem d_Writer_writeAll_21 : decode b_Writer_writeAll 21 = .ok (.if_icmp .ge 50, 3) := by decide +kernel
end
section
theorem d_Writer_writeAll_24 : decode b_Writer_writeAll 24 = .ok (.iconst 0, 1) := by decide +kernel
theorem d_Writer_writeAll_25 : decode b_Writer_writeAll 25 = .ok (.istore_n 2, 1) := by decide +kernel
theorem d_Writer_writeAll_26 : decode b_Writer_writeAll 26 = .ok (.iload_n 2, 1) := by decide +kernel
theorem d_Writer_writeAll_27 : decode b_Writer_writeAll 27 = .ok (.iconst 3, 1) := by decide +kernel
theorem d_Writer_writeAll_28 : decode b_Writer_writeAll 28 = .ok (.if_icmp .gt 27, 3) := by decide +kernel
theorem d_Writer_writeAll_31 : decode b_Writer_writeAll 31 = .ok (.aload_n 0, 1) := by decide +kernel
theorem d_Writer_writeAll_32 : decode b_Writer_writeAll 32 = .ok (.getfield 9, 3) := by decide +kernel
theorem d_Writer_writeAll_35 : decode b_Writer_writeAll 35 = .ok (.iload_n 1, 1) := by decide +kernel
theorem d_Writer_writeAll_36 : decode b_Writer_writeAll 36 = .ok (.iload_n 2, 1) := by decide +kernel
theorem d_Writer_writeAll_37 : decode b_Writer_writeAll 37 = .ok (.invokevirtual 33, 3) := by decide +kernel
theorem d_Writer_writeAll_40 : decode b_Writer_writeAll 40 = .ok (.ifCond .eq 9, 3) := by decide +kernel
theorem d_Writer_writeAll_43 : decode b_Writer_writeAll 43 = .ok (.aload_n 0, 1) := by decide +kernel
theorem d_Writer_writeAll_44 : decode b_Writer_writeAll 44 = .ok (.iload_n 1, 1) := by decide +kernel
theorem d_Writer_writeAll_45 : decode b_Writer_writeAll 45 = .ok (.iload_n 2, 1) := by decide +kernel
theorem d_Writer_writeAll_46 : decode b_Writer_writeAll 46 = .ok (.invokevirtual 37, 3) := by decide +kernel
theorem d_Writer_writeAll_49 : decode b_Writer_writeAll 49 = .ok (.iinc 2 1, 3) := by decide +kernel
theorem d_Writer_writeAll_52 : decode b_Writer_writeAll 52 = .ok (.goto (-26), 3) := by decide +kernel
theorem d_Writer_writeAll_55 : decode b_Writer_writeAll 55 = .ok (.aload_n 0, 1) := by decide +kernel
theorem d_Writer_writeAll_56 : decode b_Writer_writeAll 56 = .ok (.getfield 15, 3) := by decide +kernel
theorem d_Writer_writeAll_59 : decode b_Writer_writeAll 59 = .ok (.sipush 175, 3) := by decide +kernel
theorem d_Writer_writeAll_62 : decode b_Writer_writeAll 62 = .ok (.invokevirtual 41, 3) := by decide +kernel
theorem d_Writer_writeAll_65 : decode b_Writer_writeAll 65 = .ok (.iinc 1 1, 3) := by decide +kernel
theorem d_Writer_writeAll_68 : decode b_Writer_writeAll 68 = .ok (.goto (-55), 3) := by decide +kernel
theorem d_Writer_writeAll_71 : decode b_Writer_writeAll 71 = .ok (.aload_n 0, 1) := by decide +kernel
theorem d_Writer_writeAll_72 : decode b_Writer_writeAll 72 = .ok (.getfield 15, 3) := by decide +kernel
theorem d_Writer_writeAll_75 : decode b_Writer_writeAll 75 = .ok (.getfield 45, 3) := by decide +kernel
theorem d_Writer_writeAll_78 : decode b_Writer_writeAll 78 = .ok (.ireturn, 1) := by decide +kernel
abbrev b_Arrays_copyOf : ByteArray := prog_20_method_123_code
def y_Arrays_copyOf : MethodName := ⟨"java/util/Arrays", "copyOf", "([II)[I"⟩
theorem d_Arrays_copyOf_0 : decode b_Arrays_copyOf 0 = .ok (.iload_n 1, 1) := by decide +kernel
theorem d_Arrays_copyOf_1 : decode b_Arrays_copyOf 1 = .ok (.aload_n 0, 1) := by decide +kernel
theorem d_Arrays_copyOf_2 : decode b_Arrays_copyOf 2 = .ok (.arraylength, 1) := by decide +kernel
theorem d_Arrays_copyOf_3 : decode b_Arrays_copyOf 3 = .ok (.if_icmp .ne 11, 3) := by decide +kernel
theorem d_Arrays_copyOf_6 : decode b_Arrays_copyOf 6 = .ok (.aload_n 0, 1) := by decide +kernel
theorem d_Arrays_copyOf_7 : decode b_Arrays_copyOf 7 = .ok (.invokevirtual 316, 3) := by decide +kernel
theorem d_Arrays_copyOf_10 : decode b_Arrays_copyOf 10 = .ok (.checkcast 317, 3) := by decide +kernel
theorem d_Arrays_copyOf_13 : decode b_Arrays_copyOf 13 = .ok (.areturn, 1) := by decide +kernel
theorem d_Arrays_copyOf_14 : decode b_Arrays_copyOf 14 = .ok (.iload_n 1, 1) := by decide +kernel
theorem d_Arrays_copyOf_15 : decode b_Arrays_copyOf 15 = .ok (.newarray .int, 2) := by decide +kernel
theorem d_Arrays_copyOf_17 : decode b_Arrays_copyOf 17 = .ok (.astore_n 2, 1) := by decide +kernel
theorem d_Arrays_copyOf_18 : decode b_Arrays_copyOf 18 = .ok (.aload_n 0, 1) := by decide +kernel
theorem d_Arrays_copyOf_19 : decode b_Arrays_copyOf 19 = .ok (.iconst 0, 1) := by decide +kernel
theorem d_Arrays_copyOf_20 : decode b_Arrays_copyOf 20 = .ok (.aload_n 2, 1) := by decide +kernel
theorem d_Arrays_copyOf_21 : decode b_Arrays_copyOf 21 = .ok (.iconst 0, 1) := by decide +kernel
theorem d_Arrays_copyOf_22 : decode b_Arrays_copyOf 22 = .ok (.aload_n 0, 1) := by decide +kernel
theorem d_Arrays_copyOf_23 : decode b_Arrays_copyOf 23 = .ok (.arraylength, 1) := by decide +kernel
theorem d_Arrays_copyOf_24 : decode b_Arrays_copyOf 24 = .ok (.iload_n 1, 1) := by decide +kernel
theorem d_Arrays_copyOf_25 : decode b_Arrays_copyOf 25 = .ok (.invokestatic 304, 3) := by decide +kernel
theorem d_Arrays_copyOf_28 : decode b_Arrays_copyOf 28 = .ok (.invokestatic 150, 3) := by decide +kernel
theorem d_Arrays_copyOf_31 : decode b_Arrays_copyOf 31 = .ok (.aload_n 2, 1) := by decide +kernel
theorem d_Arrays_copyOf_32 : decode b_Arrays_copyOf 32 = .ok (.areturn, 1) := by decide +kernel
end
section
def ad {α : Type} (dc ds : Nat) (k : Option (α × Nat × Nat)) : Option (α × Nat × Nat) := k.map (fun z => (z.1, dc + z.2.1, ds + z.2.2))
theorem ad_ok {α : Type} {dc ds : Nat} {k : Option (α × Nat × Nat)} {z : α × Nat × Nat} (h : ad dc ds k = some z) : ∃ z', k = some z' ∧ z.1 = z'.1 ∧ z.2.1 = dc + z'.2.1 ∧ z.2.2 = ds + z'.2.2 := by
  cases k with
  | none => cases h
  | some z' => cases h; exact ⟨z', rfl, rfl, rfl, rfl⟩
abbrev LyS : Type := (Nat → Int32) × (Nat → Nat → Int32)
abbrev ByS : Type := Int32 × Nat × (Nat → Int32)
def Lf (L : LyS) (k : Nat) (x : Int32) : LyS := (upd L.1 k x, L.2)
def La (L : LyS) (k : Nat) (f : Nat → Int32) : LyS := (L.1, va_up L.2 k f)
def Ls (L : LyS) (k i : Nat) (x : Int32) : LyS := (L.1, va_up L.2 k (upd (L.2 k) i x))
def tyG (cI cR cZ : ClassId) : List (ClassId × FieldType) := [(cI, .int), (cZ, .boolean), (cR, .array .int)]
def wLy (cI cR : ClassId) (a : Nat → Nat) (n : Nat) (L : LyS) : va_W := [(a 0, .inr (1, [.ref (a 1), .ref (a 6), .ref (a 7), .ref (a 8), .int (L.1 0), .int (L.1 1), .int (L.1 2), .int (L.1 3)])), (a 1, .inl (cR, 4, .inr (.inr (.inr (.inr (fun j => some (a (2 + j)))))))), (a 2, .inl (cI, n, .inl (L.2 0))), (a 3, .inl (cI, n, .inl (L.2 1))), (a 4, .inl (cI, n, .inl (L.2 2))), (a 5, .inl (cI, n, .inl (L.2 3))), (a 6, .inl (cI, 24, .inl (L.2 4))), (a 7, .inl (cI, 4, .inl (L.2 5))), (a 8, .inl (cI, 4, .inl (L.2 6)))]
def wBy (cI : ClassId) (b q : Nat) (B : ByS) : va_W := [(b, .inr (0, [.ref q, .int B.1])), (q, .inl (cI, B.2.1, .inl B.2.2))]
def wMk (cI cR : ClassId) (o0 hc hm hb : Nat) (a : Nat → Nat) (n : Nat) (col msk bare : Nat → Int32) (L : LyS) : va_W := [(o0, .inr (2, [.ref (a 0), .ref hc, .ref hm, .ref hb])), (hc, .inl (cI, n, .inl col)), (hm, .inl (cI, n, .inl msk)), (hb, .inl (cI, n, .inl bare))] ++ wLy cI cR a n L
def wRd (cI cR : ClassId) (o0 hh b q : Nat) (a : Nat → Nat) (n : Nat) (B : ByS) (pl rf : Int32) (hd : Nat → Int32) (L : LyS) : va_W := [(o0, .inr (3, [.ref b, .ref (a 0), .ref hh, .int pl, .int rf])), (hh, .inl (cI, 7, .inl hd))] ++ (wBy cI b q B ++ wLy cI cR a n L)
def wWr (cI cR : ClassId) (o0 : Nat) (a : Nat → Nat) (n b q : Nat) (L : LyS) (B : ByS) : va_W := [(o0, .inr (4, [.ref (a 0), .ref b]))] ++ (wLy cI cR a n L ++ wBy cI b q B)
def wML (cI cR : ClassId) (o0 hc hm om hb ow or_ hh : Nat) (aM aF : Nat → Nat) (bw qw bf qf n : Nat) (wd ht stp : Int32) (col msk bare : Nat → Int32) (M F : LyS) (Bw Bf : ByS) (pl rf : Int32) (hd : Nat → Int32) : va_W := [(o0, .inr (5, [.int wd, .int ht, .ref hc, .ref hm, .ref (aM 0), .ref (aF 0), .ref bw, .ref bf, .ref om, .ref ow, .ref or_, .int stp])), (hc, .inl (cI, n, .inl col)), (hm, .inl (cI, n, .inl msk)), (om, .inr (2, [.ref (aM 0), .ref hc, .ref hm, .ref hb])), (hb, .inl (cI, n, .inl bare)), (ow, .inr (4, [.ref (aM 0), .ref bw])), (or_, .inr (3, [.ref bf, .ref (aF 0), .ref hh, .int pl, .int rf])), (hh, .inl (cI, 7, .inl hd))] ++ (wLy cI cR aM n M ++ (wLy cI cR aF 576 F ++ (wBy cI bw qw Bw ++ wBy cI bf qf Bf)))
def hdLo : Nat → Int32 := fun j => ([77, 76, 1, 1, 1, 1, 1] : List Int32).getD j 0
def hdHi : Nat → Int32 := fun j => ([77, 76, 24, 24, 24, 8, 8] : List Int32).getD j 0
/-! ===== the pure side: what a walk gives as a function ===== -/
def gd {α : Type} (i : Int32) (n : Nat) (k : Option α) : Option α := if i < 0 ∨ n ≤ i.toNatClampNeg then none else k
theorem gd_ok {α : Type} {i : Int32} {n : Nat} {k : Option α} {r : α} (h : gd i n k = some r) : vp_in i n ∧ k = some r := by
  unfold gd at h
  by_cases c : i < 0 ∨ n ≤ i.toNatClampNeg
  · rw [if_pos c] at h; cases h
  · rw [if_neg c] at h; exact ⟨c, h⟩
theorem gd_in {α : Type} {i : Int32} {n : Nat} {k : Option α} (h : vp_in i n) : gd i n k = k := if_neg h
def dz {α : Type} (y : Int32) (k : Option α) : Option α := if y = 0 then none else k
theorem dz_ok {α : Type} {y : Int32} {k : Option α} {r : α} (h : dz y k = some r) : ¬ y = 0 ∧ k = some r := by
  unfold dz at h
  by_cases c : y = 0
  · rw [if_pos c] at h; cases h
  · rw [if_neg c] at h; exact ⟨c, h⟩
theorem dz_in {α : Type} {y : Int32} {k : Option α} (h : ¬ y = 0) : dz y k = k := if_neg h
def zb {α : Type} (v : Int32) (k : Option α) : Option α := if v = 0 ∨ v = 1 then k else none
theorem zb_ok {α : Type} {v : Int32} {k : Option α} {r : α} (h : zb v k = some r) : (v = 0 ∨ v = 1) ∧ k = some r := by
  unfold zb at h
  by_cases c : v = 0 ∨ v = 1
  · rw [if_pos c] at h; exact ⟨c, h⟩
  · rw [if_neg c] at h; cases h
theorem zb_in {α : Type} {v : Int32} {k : Option α} (h : v = 0 ∨ v = 1) : zb v k = k := if_pos h
theorem bd_ok {α β : Type} {x : Option α} {f : α → Option β} {r : β} (h : x.bind f = some r) : ∃ a, x = some a ∧ f a = some r := by
  cases x with
  | none => cases h
  | some a => exact ⟨a, rfl, h⟩
theorem zb_nar {v : Int32} (h : v = 0 ∨ v = 1) : narrow .boolean (.int v) = .int v := by
  rcases h with rfl | rfl <;> rfl
/-! ===== J: the machine at pc, over a world of cells, with these locals and this stack ===== -/
def J (p : Program) (l : Launch) (e : Env) (R : Room) (s : State) (m : MethodId) (args : Array Value) (below : List Frame) (meth : Method) (c : Code) (D : va_G) (A : Nat → Prop) (X : va_W → Prop) (nL : Nat) (Q : State → Prop) (cells slots : Nat) (ws : va_W) (lv : List (Nat × Value)) (st : List Value) (pc : Nat) : Prop :=
  ∀ (H : Heap) (locs : List Loc) (ls : Array Slot), va_P D vwCl ws H → X ws → va_S A s.heap H locs → lv_has ls nL lv → W p l e R s m args below meth c H locs cells slots Q (F0 m pc ls st)
/-- what stays the same through a method -/
def Cx (p : Program) (s : State) (m : MethodId) (args : Array Value) (meth : Method) (c : Code) (D : va_G) (tys : List (ClassId × FieldType)) (cc : ByteArray) (nL : Nat) (own : String) : Prop :=
  CallFix p m c cc nL s args BIG own ∧ va_K D vwCl tys s ∧ NW s ∧ meth.locks = false
section JR
variable {p : Program} {l : Launch} {e : Env} {R : Room} {s : State} {m : MethodId} {args : Array Value} {below : List Frame} {meth : Method} {c : Code} {D : va_G} {A : Nat → Prop} {X : va_W → Prop} {nL : Nat} {Q : State → Prop} {cells slots : Nat} {ws : va_W} {lv : List (Nat × Value)} {st : List Value} {pc : Nat}
variable {tys : List (ClassId × FieldType)} {cc : ByteArray} {own : String}
theorem j_iconst (C : Cx p s m args meth c D tys cc nL own) {n : Int} {v : Int32} (d : decode cc pc = .ok (.iconst n, 1)) (hv : Int32.ofInt n = v) (k : J p l e R s m args below meth c D A X nL Q cells slots ws lv (.int v :: st) (pc + 1)) : J p l e R s m args below meth c D A X nL Q cells slots ws lv st pc :=
  fun H locs ls hP hD hS h => lv_iconst C.1.1 C.1.2.1 d hv (k H locs ls hP hD hS h)
theorem j_bipush (C : Cx p s m args meth c D tys cc nL own) {n : Int} {v : Int32} (d : decode cc pc = .ok (.bipush n, 2)) (hv : (Int8.ofInt n).toInt32 = v) (k : J p l e R s m args below meth c D A X nL Q cells slots ws lv (.int v :: st) (pc + 2)) : J p l e R s m args below meth c D A X nL Q cells slots ws lv st pc :=
  fun H locs ls hP hD hS h => lv_bipush C.1.1 C.1.2.1 d hv (k H locs ls hP hD hS h)
theorem j_sipush (C : Cx p s m args meth c D tys cc nL own) {n : Int} {v : Int32} (d : decode cc pc = .ok (.sipush n, 3)) (hv : (Int16.ofInt n).toInt32 = v) (k : J p l e R s m args below meth c D A X nL Q cells slots ws lv (.int v :: st) (pc + 3)) : J p l e R s m args below meth c D A X nL Q cells slots ws lv st pc :=
  fun H locs ls hP hD hS h => lv_sipush C.1.1 C.1.2.1 d hv (k H locs ls hP hD hS h)
theorem j_ldc (C : Cx p s m args meth c D tys cc nL own) {index : Nat} {v : Int32} (hw : Jvm.Cond.constant own index v ∈ BIG) (d : decode cc pc = .ok (.ldc index, 2)) (k : J p l e R s m args below meth c D A X nL Q cells slots ws lv (.int v :: st) (pc + 2)) : J p l e R s m args below meth c D A X nL Q cells slots ws lv st pc :=
  fun H locs ls hP hD hS h => lv_ldc C.1.1 C.1.2.1 C.1.2.2.2.1 (C.1.2.2.2.2 _ hw) d (k H locs ls hP hD hS h)
theorem j_iload_n (C : Cx p s m args meth c D tys cc nL own) {i : Fin 4} (q : Nat) {x : Int32} (d : decode cc pc = .ok (.iload_n i, 1)) (hl : lv[q]? = some ((i : Nat), .int x)) (k : J p l e R s m args below meth c D A X nL Q cells slots ws lv (.int x :: st) (pc + 1)) : J p l e R s m args below meth c D A X nL Q cells slots ws lv st pc :=
  fun H locs ls hP hD hS h => lv_iload_n C.1.1 C.1.2.1 d rfl (lv_at h q hl) (k H locs ls hP hD hS h)
theorem j_iload (C : Cx p s m args meth c D tys cc nL own) {i : Nat} (q : Nat) {x : Int32} (d : decode cc pc = .ok (.iload i, 2)) (hl : lv[q]? = some (i, .int x)) (k : J p l e R s m args below meth c D A X nL Q cells slots ws lv (.int x :: st) (pc + 2)) : J p l e R s m args below meth c D A X nL Q cells slots ws lv st pc :=
  fun H locs ls hP hD hS h => lv_iload C.1.1 C.1.2.1 d (lv_at h q hl) (k H locs ls hP hD hS h)
theorem j_aload_n (C : Cx p s m args meth c D tys cc nL own) {i : Fin 4} (q : Nat) {x : Nat} (d : decode cc pc = .ok (.aload_n i, 1)) (hl : lv[q]? = some ((i : Nat), .ref x)) (k : J p l e R s m args below meth c D A X nL Q cells slots ws lv (.ref x :: st) (pc + 1)) : J p l e R s m args below meth c D A X nL Q cells slots ws lv st pc :=
  fun H locs ls hP hD hS h => lv_aload_n C.1.1 C.1.2.1 d rfl (lv_at h q hl) (k H locs ls hP hD hS h)
theorem j_aload (C : Cx p s m args meth c D tys cc nL own) {i : Nat} (q : Nat) {x : Nat} (d : decode cc pc = .ok (.aload i, 2)) (hl : lv[q]? = some (i, .ref x)) (k : J p l e R s m args below meth c D A X nL Q cells slots ws lv (.ref x :: st) (pc + 2)) : J p l e R s m args below meth c D A X nL Q cells slots ws lv st pc :=
  fun H locs ls hP hD hS h => lv_aload C.1.1 C.1.2.1 d (lv_at h q hl) (k H locs ls hP hD hS h)
theorem j_istore_n (C : Cx p s m args meth c D tys cc nL own) {i : Fin 4} (lv' : List (Nat × Value)) {x : Int32} (d : decode cc pc = .ok (.istore_n i, 1)) (hn : (i : Nat) < nL) (hl : ((i : Nat), Value.int x) :: lv.filter (fun q => !(q.1 == (i : Nat)) && !(q.1 + 1 == (i : Nat) && q.2.category == 2)) = lv') (k : J p l e R s m args below meth c D A X nL Q cells slots ws lv' st (pc + 1)) : J p l e R s m args below meth c D A X nL Q cells slots ws lv (.int x :: st) pc :=
  fun H locs ls hP hD hS h => lv_istore_n C.1.1 C.1.2.1 d rfl h hn hl (fun ls' h' => k H locs ls' hP hD hS h')
theorem j_istore (C : Cx p s m args meth c D tys cc nL own) {i : Nat} (lv' : List (Nat × Value)) {x : Int32} (d : decode cc pc = .ok (.istore i, 2)) (hn : i < nL) (hl : (i, Value.int x) :: lv.filter (fun q => !(q.1 == i) && !(q.1 + 1 == i && q.2.category == 2)) = lv') (k : J p l e R s m args below meth c D A X nL Q cells slots ws lv' st (pc + 2)) : J p l e R s m args below meth c D A X nL Q cells slots ws lv (.int x :: st) pc :=
  fun H locs ls hP hD hS h => lv_istore C.1.1 C.1.2.1 d h hn hl (fun ls' h' => k H locs ls' hP hD hS h')
theorem j_astore_n (C : Cx p s m args meth c D tys cc nL own) {i : Fin 4} (lv' : List (Nat × Value)) {x : Nat} (d : decode cc pc = .ok (.astore_n i, 1)) (hn : (i : Nat) < nL) (hl : ((i : Nat), Value.ref x) :: lv.filter (fun q => !(q.1 == (i : Nat)) && !(q.1 + 1 == (i : Nat) && q.2.category == 2)) = lv') (k : J p l e R s m args below meth c D A X nL Q cells slots ws lv' st (pc + 1)) : J p l e R s m args below meth c D A X nL Q cells slots ws lv (.ref x :: st) pc :=
  fun H locs ls hP hD hS h => lv_astore_n C.1.1 C.1.2.1 d rfl h hn hl (fun ls' h' => k H locs ls' hP hD hS h')
theorem j_astore (C : Cx p s m args meth c D tys cc nL own) {i : Nat} (lv' : List (Nat × Value)) {x : Nat} (d : decode cc pc = .ok (.astore i, 2)) (hn : i < nL) (hl : (i, Value.ref x) :: lv.filter (fun q => !(q.1 == i) && !(q.1 + 1 == i && q.2.category == 2)) = lv') (k : J p l e R s m args below meth c D A X nL Q cells slots ws lv' st (pc + 2)) : J p l e R s m args below meth c D A X nL Q cells slots ws lv (.ref x :: st) pc :=
  fun H locs ls hP hD hS h => lv_astore C.1.1 C.1.2.1 d h hn hl (fun ls' h' => k H locs ls' hP hD hS h')
theorem j_iinc (C : Cx p s m args meth c D tys cc nL own) {i : Nat} {n : Int} (lv' : List (Nat × Value)) (q : Nat) {x : Int32} (v : Int32) (d : decode cc pc = .ok (.iinc i n, 3)) (hq : lv[q]? = some (i, .int x)) (hv : x + Int32.ofInt n = v) (hn : i < nL) (hl : (i, Value.int v) :: lv.filter (fun q => !(q.1 == i) && !(q.1 + 1 == i && q.2.category == 2)) = lv') (k : J p l e R s m args below meth c D A X nL Q cells slots ws lv' st (pc + 3)) : J p l e R s m args below meth c D A X nL Q cells slots ws lv st pc :=
  fun H locs ls hP hD hS h => lv_iinc C.1.1 C.1.2.1 d h hq hv hn hl (fun ls' h' => k H locs ls' hP hD hS h')
theorem j_iadd (C : Cx p s m args meth c D tys cc nL own) {x y : Int32} (d : decode cc pc = .ok (.iadd, 1)) (k : J p l e R s m args below meth c D A X nL Q cells slots ws lv (.int (x + y) :: st) (pc + 1)) : J p l e R s m args below meth c D A X nL Q cells slots ws lv (.int y :: .int x :: st) pc :=
  fun H locs ls hP hD hS h => lv_iadd C.1.1 C.1.2.1 d (k H locs ls hP hD hS h)
theorem j_isub (C : Cx p s m args meth c D tys cc nL own) {x y : Int32} (d : decode cc pc = .ok (.isub, 1)) (k : J p l e R s m args below meth c D A X nL Q cells slots ws lv (.int (x - y) :: st) (pc + 1)) : J p l e R s m args below meth c D A X nL Q cells slots ws lv (.int y :: .int x :: st) pc :=
  fun H locs ls hP hD hS h => lv_isub C.1.1 C.1.2.1 d (k H locs ls hP hD hS h)
theorem j_imul (C : Cx p s m args meth c D tys cc nL own) {x y : Int32} (d : decode cc pc = .ok (.imul, 1)) (k : J p l e R s m args below meth c D A X nL Q cells slots ws lv (.int (x * y) :: st) (pc + 1)) : J p l e R s m args below meth c D A X nL Q cells slots ws lv (.int y :: .int x :: st) pc :=
  fun H locs ls hP hD hS h => lv_imul C.1.1 C.1.2.1 d (k H locs ls hP hD hS h)
theorem j_iand (C : Cx p s m args meth c D tys cc nL own) {x y : Int32} (d : decode cc pc = .ok (.iand, 1)) (k : J p l e R s m args below meth c D A X nL Q cells slots ws lv (.int (x &&& y) :: st) (pc + 1)) : J p l e R s m args below meth c D A X nL Q cells slots ws lv (.int y :: .int x :: st) pc :=
  fun H locs ls hP hD hS h => lv_iand C.1.1 C.1.2.1 d (k H locs ls hP hD hS h)
theorem j_ior (C : Cx p s m args meth c D tys cc nL own) {x y : Int32} (d : decode cc pc = .ok (.ior, 1)) (k : J p l e R s m args below meth c D A X nL Q cells slots ws lv (.int (x ||| y) :: st) (pc + 1)) : J p l e R s m args below meth c D A X nL Q cells slots ws lv (.int y :: .int x :: st) pc :=
  fun H locs ls hP hD hS h => lv_ior C.1.1 C.1.2.1 d (k H locs ls hP hD hS h)
theorem j_ishl (C : Cx p s m args meth c D tys cc nL own) {x y : Int32} (d : decode cc pc = .ok (.ishl, 1)) (k : J p l e R s m args below meth c D A X nL Q cells slots ws lv (.int (x <<< (y &&& 31)) :: st) (pc + 1)) : J p l e R s m args below meth c D A X nL Q cells slots ws lv (.int y :: .int x :: st) pc :=
  fun H locs ls hP hD hS h => lv_ishl C.1.1 C.1.2.1 d (k H locs ls hP hD hS h)
theorem j_ishr (C : Cx p s m args meth c D tys cc nL own) {x y : Int32} (d : decode cc pc = .ok (.ishr, 1)) (k : J p l e R s m args below meth c D A X nL Q cells slots ws lv (.int (x >>> (y &&& 31)) :: st) (pc + 1)) : J p l e R s m args below meth c D A X nL Q cells slots ws lv (.int y :: .int x :: st) pc :=
  fun H locs ls hP hD hS h => lv_ishr C.1.1 C.1.2.1 d (k H locs ls hP hD hS h)
theorem j_idiv (C : Cx p s m args meth c D tys cc nL own) {x y : Int32} (d : decode cc pc = .ok (.idiv, 1)) (hy : ¬ y = 0) (k : J p l e R s m args below meth c D A X nL Q cells slots ws lv (.int (x / y) :: st) (pc + 1)) : J p l e R s m args below meth c D A X nL Q cells slots ws lv (.int y :: .int x :: st) pc :=
  fun H locs ls hP hD hS h => lv_idiv C.1.1 C.1.2.1 d hy (k H locs ls hP hD hS h)
theorem j_dup (C : Cx p s m args meth c D tys cc nL own) {v : Value} (d : decode cc pc = .ok (.dup, 1)) (hv : v.category = 1) (k : J p l e R s m args below meth c D A X nL Q cells slots ws lv (v :: v :: st) (pc + 1)) : J p l e R s m args below meth c D A X nL Q cells slots ws lv (v :: st) pc :=
  fun H locs ls hP hD hS h => lv_dup C.1.1 C.1.2.1 d hv (k H locs ls hP hD hS h)
theorem j_dup2 (C : Cx p s m args meth c D tys cc nL own) {v w : Value} (d : decode cc pc = .ok (.dup2, 1)) (hv : v.category = 1) (hw : w.category = 1) (k : J p l e R s m args below meth c D A X nL Q cells slots ws lv (v :: w :: v :: w :: st) (pc + 1)) : J p l e R s m args below meth c D A X nL Q cells slots ws lv (v :: w :: st) pc :=
  fun H locs ls hP hD hS h => lv_dup2_11 C.1.1 C.1.2.1 d hv hw (k H locs ls hP hD hS h)
theorem j_pop (C : Cx p s m args meth c D tys cc nL own) {v : Value} (d : decode cc pc = .ok (.pop, 1)) (hv : v.category = 1) (k : J p l e R s m args below meth c D A X nL Q cells slots ws lv st (pc + 1)) : J p l e R s m args below meth c D A X nL Q cells slots ws lv (v :: st) pc :=
  fun H locs ls hP hD hS h => lv_pop C.1.1 C.1.2.1 d hv (k H locs ls hP hD hS h)
theorem j_goto (C : Cx p s m args meth c D tys cc nL own) {off : Int} (tgt : Nat) (d : decode cc pc = .ok (.goto off, 3)) (ht : (pc : Int) + off = (tgt : Int)) (k : J p l e R s m args below meth c D A X nL Q cells slots ws lv st tgt) : J p l e R s m args below meth c D A X nL Q cells slots ws lv st pc :=
  fun H locs ls hP hD hS h => lv_goto C.1.1 C.1.2.1 d ht (k H locs ls hP hD hS h)
theorem j_if_eq (C : Cx p s m args meth c D tys cc nL own) {x : Int32} {off : Int} (tgt : Nat) (d : decode cc pc = .ok (.ifCond .eq off, 3)) (ht : (pc : Int) + off = (tgt : Int)) (kt : x = 0 → J p l e R s m args below meth c D A X nL Q cells slots ws lv st tgt) (kf : ¬ x = 0 → J p l e R s m args below meth c D A X nL Q cells slots ws lv st (pc + 3)) : J p l e R s m args below meth c D A X nL Q cells slots ws lv (.int x :: st) pc :=
  fun H locs ls hP hD hS h => lv_if_eq C.1.1 C.1.2.1 d ht (fun q => kt q H locs ls hP hD hS h) (fun q => kf q H locs ls hP hD hS h)
theorem j_if_ne (C : Cx p s m args meth c D tys cc nL own) {x : Int32} {off : Int} (tgt : Nat) (d : decode cc pc = .ok (.ifCond .ne off, 3)) (ht : (pc : Int) + off = (tgt : Int)) (kt : ¬ x = 0 → J p l e R s m args below meth c D A X nL Q cells slots ws lv st tgt) (kf : x = 0 → J p l e R s m args below meth c D A X nL Q cells slots ws lv st (pc + 3)) : J p l e R s m args below meth c D A X nL Q cells slots ws lv (.int x :: st) pc :=
  fun H locs ls hP hD hS h => lv_if_ne C.1.1 C.1.2.1 d ht (fun q => kt q H locs ls hP hD hS h) (fun q => kf q H locs ls hP hD hS h)
theorem j_if_lt (C : Cx p s m args meth c D tys cc nL own) {x : Int32} {off : Int} (tgt : Nat) (d : decode cc pc = .ok (.ifCond .lt off, 3)) (ht : (pc : Int) + off = (tgt : Int)) (kt : x < 0 → J p l e R s m args below meth c D A X nL Q cells slots ws lv st tgt) (kf : ¬ x < 0 → J p l e R s m args below meth c D A X nL Q cells slots ws lv st (pc + 3)) : J p l e R s m args below meth c D A X nL Q cells slots ws lv (.int x :: st) pc :=
  fun H locs ls hP hD hS h => lv_if_lt C.1.1 C.1.2.1 d ht (fun q => kt q H locs ls hP hD hS h) (fun q => kf q H locs ls hP hD hS h)
theorem j_if_ge (C : Cx p s m args meth c D tys cc nL own) {x : Int32} {off : Int} (tgt : Nat) (d : decode cc pc = .ok (.ifCond .ge off, 3)) (ht : (pc : Int) + off = (tgt : Int)) (kt : 0 ≤ x → J p l e R s m args below meth c D A X nL Q cells slots ws lv st tgt) (kf : ¬ 0 ≤ x → J p l e R s m args below meth c D A X nL Q cells slots ws lv st (pc + 3)) : J p l e R s m args below meth c D A X nL Q cells slots ws lv (.int x :: st) pc :=
  fun H locs ls hP hD hS h => lv_if_ge C.1.1 C.1.2.1 d ht (fun q => kt q H locs ls hP hD hS h) (fun q => kf q H locs ls hP hD hS h)
theorem j_if_gt (C : Cx p s m args meth c D tys cc nL own) {x : Int32} {off : Int} (tgt : Nat) (d : decode cc pc = .ok (.ifCond .gt off, 3)) (ht : (pc : Int) + off = (tgt : Int)) (kt : 0 < x → J p l e R s m args below meth c D A X nL Q cells slots ws lv st tgt) (kf : ¬ 0 < x → J p l e R s m args below meth c D A X nL Q cells slots ws lv st (pc + 3)) : J p l e R s m args below meth c D A X nL Q cells slots ws lv (.int x :: st) pc :=
  fun H locs ls hP hD hS h => lv_if_gt C.1.1 C.1.2.1 d ht (fun q => kt q H locs ls hP hD hS h) (fun q => kf q H locs ls hP hD hS h)
theorem j_if_le (C : Cx p s m args meth c D tys cc nL own) {x : Int32} {off : Int} (tgt : Nat) (d : decode cc pc = .ok (.ifCond .le off, 3)) (ht : (pc : Int) + off = (tgt : Int)) (kt : x ≤ 0 → J p l e R s m args below meth c D A X nL Q cells slots ws lv st tgt) (kf : ¬ x ≤ 0 → J p l e R s m args below meth c D A X nL Q cells slots ws lv st (pc + 3)) : J p l e R s m args below meth c D A X nL Q cells slots ws lv (.int x :: st) pc :=
  fun H locs ls hP hD hS h => lv_if_le C.1.1 C.1.2.1 d ht (fun q => kt q H locs ls hP hD hS h) (fun q => kf q H locs ls hP hD hS h)
theorem j_icmp_eq (C : Cx p s m args meth c D tys cc nL own) {x y : Int32} {off : Int} (tgt : Nat) (d : decode cc pc = .ok (.if_icmp .eq off, 3)) (ht : (pc : Int) + off = (tgt : Int)) (kt : x = y → J p l e R s m args below meth c D A X nL Q cells slots ws lv st tgt) (kf : ¬ x = y → J p l e R s m args below meth c D A X nL Q cells slots ws lv st (pc + 3)) : J p l e R s m args below meth c D A X nL Q cells slots ws lv (.int y :: .int x :: st) pc :=
  fun H locs ls hP hD hS h => lv_icmp_eq C.1.1 C.1.2.1 d ht (fun q => kt q H locs ls hP hD hS h) (fun q => kf q H locs ls hP hD hS h)
theorem j_icmp_ne (C : Cx p s m args meth c D tys cc nL own) {x y : Int32} {off : Int} (tgt : Nat) (d : decode cc pc = .ok (.if_icmp .ne off, 3)) (ht : (pc : Int) + off = (tgt : Int)) (kt : ¬ x = y → J p l e R s m args below meth c D A X nL Q cells slots ws lv st tgt) (kf : x = y → J p l e R s m args below meth c D A X nL Q cells slots ws lv st (pc + 3)) : J p l e R s m args below meth c D A X nL Q cells slots ws lv (.int y :: .int x :: st) pc :=
  fun H locs ls hP hD hS h => lv_icmp_ne C.1.1 C.1.2.1 d ht (fun q => kt q H locs ls hP hD hS h) (fun q => kf q H locs ls hP hD hS h)
theorem j_icmp_lt (C : Cx p s m args meth c D tys cc nL own) {x y : Int32} {off : Int} (tgt : Nat) (d : decode cc pc = .ok (.if_icmp .lt off, 3)) (ht : (pc : Int) + off = (tgt : Int)) (kt : x < y → J p l e R s m args below meth c D A X nL Q cells slots ws lv st tgt) (kf : ¬ x < y → J p l e R s m args below meth c D A X nL Q cells slots ws lv st (pc + 3)) : J p l e R s m args below meth c D A X nL Q cells slots ws lv (.int y :: .int x :: st) pc :=
  fun H locs ls hP hD hS h => lv_icmp_lt C.1.1 C.1.2.1 d ht (fun q => kt q H locs ls hP hD hS h) (fun q => kf q H locs ls hP hD hS h)
theorem j_icmp_ge (C : Cx p s m args meth c D tys cc nL own) {x y : Int32} {off : Int} (tgt : Nat) (d : decode cc pc = .ok (.if_icmp .ge off, 3)) (ht : (pc : Int) + off = (tgt : Int)) (kt : y ≤ x → J p l e R s m args below meth c D A X nL Q cells slots ws lv st tgt) (kf : ¬ y ≤ x → J p l e R s m args below meth c D A X nL Q cells slots ws lv st (pc + 3)) : J p l e R s m args below meth c D A X nL Q cells slots ws lv (.int y :: .int x :: st) pc :=
  fun H locs ls hP hD hS h => lv_icmp_ge C.1.1 C.1.2.1 d ht (fun q => kt q H locs ls hP hD hS h) (fun q => kf q H locs ls hP hD hS h)
theorem j_icmp_gt (C : Cx p s m args meth c D tys cc nL own) {x y : Int32} {off : Int} (tgt : Nat) (d : decode cc pc = .ok (.if_icmp .gt off, 3)) (ht : (pc : Int) + off = (tgt : Int)) (kt : y < x → J p l e R s m args below meth c D A X nL Q cells slots ws lv st tgt) (kf : ¬ y < x → J p l e R s m args below meth c D A X nL Q cells slots ws lv st (pc + 3)) : J p l e R s m args below meth c D A X nL Q cells slots ws lv (.int y :: .int x :: st) pc :=
  fun H locs ls hP hD hS h => lv_icmp_gt C.1.1 C.1.2.1 d ht (fun q => kt q H locs ls hP hD hS h) (fun q => kf q H locs ls hP hD hS h)
theorem j_icmp_le (C : Cx p s m args meth c D tys cc nL own) {x y : Int32} {off : Int} (tgt : Nat) (d : decode cc pc = .ok (.if_icmp .le off, 3)) (ht : (pc : Int) + off = (tgt : Int)) (kt : x ≤ y → J p l e R s m args below meth c D A X nL Q cells slots ws lv st tgt) (kf : ¬ x ≤ y → J p l e R s m args below meth c D A X nL Q cells slots ws lv st (pc + 3)) : J p l e R s m args below meth c D A X nL Q cells slots ws lv (.int y :: .int x :: st) pc :=
  fun H locs ls hP hD hS h => lv_icmp_le C.1.1 C.1.2.1 d ht (fun q => kt q H locs ls hP hD hS h) (fun q => kf q H locs ls hP hD hS h)
theorem j_sub (is : List Nat) {lv' : List (Nat × Value)} (hl : lv_pick lv is = lv') (k : J p l e R s m args below meth c D A X nL Q cells slots ws lv' st pc) : J p l e R s m args below meth c D A X nL Q cells slots ws lv st pc :=
  fun H locs ls hP hD hS h => k H locs ls hP hD hS (lv_sub h is hl)
theorem P_map {ws ws' : va_W} {H : Heap} (h : va_P D vwCl ws H) (is : List Nat) (hs : is.map (fun i => ws[i]?) = ws'.map some) : va_P D vwCl ws' H := by
  intro k q hk
  have h1 : (is.map (fun i => ws[i]?))[k]? = some (some q) := by rw [hs, List.getElem?_map, hk]; rfl
  rw [List.getElem?_map] at h1
  cases hi : is[k]? with
  | none => rw [hi] at h1; cases h1
  | some i => rw [hi] at h1; exact h i q (Option.some.inj h1)
theorem j_perm (is : List Nat) {ws' : va_W} (hs : is.map (fun i => ws[i]?) = ws'.map some) (hn : va_nd is = true) (k : J p l e R s m args below meth c D A (va_D A) nL Q cells slots ws' lv st pc) : J p l e R s m args below meth c D A (va_D A) nL Q cells slots ws lv st pc :=
  fun H locs ls hP hD hS h => k H locs ls (P_map hP is hs) (hD.sub is hn hs) hS h
theorem j_widen {c2 s2 : Nat} (h1 : cells ≤ c2) (h2 : slots ≤ s2) (k : J p l e R s m args below meth c D A X nL Q c2 s2 ws lv st pc) : J p l e R s m args below meth c D A X nL Q cells slots ws lv st pc :=
  fun H locs ls hP hD hS h => W.widen h1 h2 (k H locs ls hP hD hS h)
theorem in_lt {i : Int32} {n : Nat} (h : vp_in i n) : i.toNatClampNeg < n := Nat.not_le.mp fun q => h (Or.inr q)
theorem j_iald (C : Cx p s m args meth c D tys cc nL own) (q0 : Nat) {t0 : Nat} {cA : ClassId} {n a : Nat} {f : Nat → Int32} {i : Int32} (ha : ws[q0]? = some (a, .inl (cA, n, .inl f))) (ht : tys[t0]? = some (cA, .int)) (hin : vp_in i n) (d : decode cc pc = .ok (.iaload, 1)) (k : J p l e R s m args below meth c D A X nL Q cells slots ws lv (.int (f i.toNatClampNeg) :: st) (pc + 1)) : J p l e R s m args below meth c D A X nL Q cells slots ws lv (.int i :: .ref a :: st) pc :=
  fun H locs ls hP hD hS h => va_iald C.1.1 C.1.2.1 C.2.1 hP q0 t0 ha ht hin d (k H locs ls hP hD hS h)
theorem j_iast (C : Cx p s m args meth c D tys cc nL own) (q0 : Nat) (ws' : va_W) {t0 : Nat} {cA : ClassId} {n a : Nat} {f : Nat → Int32} {i x : Int32} (ha : ws[q0]? = some (a, .inl (cA, n, .inl f))) (hw : ws.set q0 (a, .inl (cA, n, .inl (upd f i.toNatClampNeg x))) = ws') (ht : tys[t0]? = some (cA, .int)) (hin : vp_in i n) (d : decode cc pc = .ok (.iastore, 1)) (k : J p l e R s m args below meth c D A (va_D A) nL Q cells slots ws' lv st (pc + 1)) : J p l e R s m args below meth c D A (va_D A) nL Q cells slots ws lv (.int x :: .int i :: .ref a :: st) pc := by
  subst hw
  exact fun H locs ls hP hD hS h => va_iast C.1.1 C.1.2.1 C.2.1 hP hD hS q0 t0 ha ht hin d (fun H1 locs1 hP hD hS => k H1 locs1 ls hP hD hS h)
theorem j_alen (C : Cx p s m args meth c D tys cc nL own) (q0 : Nat) {t0 : Nat} {cA : ClassId} {x : vp_A} {a : Nat} {v : Int32} {ty : FieldType} (ha : ws[q0]? = some (a, .inl (cA, x))) (ht : tys[t0]? = some (cA, ty)) (hv : Int32.ofNat x.1 = v) (d : decode cc pc = .ok (.arraylength, 1)) (k : J p l e R s m args below meth c D A X nL Q cells slots ws lv (.int v :: st) (pc + 1)) : J p l e R s m args below meth c D A X nL Q cells slots ws lv (.ref a :: st) pc :=
  fun H locs ls hP hD hS h => va_alen C.1.1 C.1.2.1 C.2.1 hP q0 t0 ha ht hv d (k H locs ls hP hD hS h)
theorem j_ws {ws' : va_W} (hs : ws = ws') (k : J p l e R s m args below meth c D A X nL Q cells slots ws' lv st pc) : J p l e R s m args below meth c D A X nL Q cells slots ws lv st pc := hs ▸ k
theorem j_aald (C : Cx p s m args meth c D tys cc nL own) (q0 : Nat) {t0 : Nat} {cA : ClassId} {t : FieldType} {n a : Nat} {f : Nat → Nat} {i : Int32} (ha : ws[q0]? = some (a, .inl (cA, n, .inr (.inr (.inr (.inr (fun j => some (f j)))))))) (ht : tys[t0]? = some (cA, .array t)) (hin : vp_in i n) (d : decode cc pc = .ok (.aaload, 1)) (k : J p l e R s m args below meth c D A X nL Q cells slots ws lv (.ref (f i.toNatClampNeg) :: st) (pc + 1)) : J p l e R s m args below meth c D A X nL Q cells slots ws lv (.int i :: .ref a :: st) pc :=
  fun H locs ls hP hD hS h => W.aald (v := .ref (f i.toNatClampNeg)) (ty := .array t) C.1.1 C.1.2.1 (hP q0 _ ha) ((C.2.1.2 t0 _ ht).1 n (fun j => va_rf (some (f j)))) rfl (fun q => by cases q) (by show ¬ (i < 0 ∨ (arrV _ _ _).slots.size ≤ _); rw [arrV_size]; exact hin) (by show (arrV _ _ _).slots[_]? = _; rw [arrV_read _ _ (in_lt hin)]; rfl) rfl rfl d (k H locs ls hP hD hS h)
def mn (x y : Int32) : Int32 := if y < x then y else x
def mx (x y : Int32) : Int32 := if x < y then y else x
def MW (own : String) (index : Nat) (y : MethodName) (b : ByteArray) : Prop := Cond.methodLink own index y ∈ BIG ∧ Cond.static y ∈ BIG ∧ Cond.initialized "java/lang/Math" ∈ BIG ∧ Cond.code y b 2 (some .int) ∈ BIG
theorem j_mmin (C : Cx p s m args meth c D tys cc nL own) {index : Nat} (hw : MW own index Lib.Math.min.name Lib.Math.min.code) (hfr : 1 ≤ R.frames) (hlo : (st.map fun v => v.category).sum + 13 ≤ R.locals) (hc : cells ≤ R.cells ∧ slots ≤ R.slots) {x y : Int32} (d : decode cc pc = .ok (.invokestatic index, 3)) (k : J p l e R s m args below meth c D A X nL Q cells slots ws lv (.int (mn x y) :: st) (pc + 3)) : J p l e R s m args below meth c D A X nL Q cells slots ws lv (.int y :: .int x :: st) pc :=
  fun H locs ls hP hD hS h => va_mmin C.1.1 C.1.2.1 (C.1.2.2.1.trans h.1.symm) C.1.2.2.2.1 (C.1.2.2.2.2 _ hw.1) (C.1.2.2.2.2 _ hw.2.1) (C.1.2.2.2.2 _ hw.2.2.1) (C.1.2.2.2.2 _ hw.2.2.2) hfr hlo hc.1 hc.2 d (k H locs ls hP hD hS h)
theorem j_mmax (C : Cx p s m args meth c D tys cc nL own) {index : Nat} (hw : MW own index Lib.Math.max.name Lib.Math.max.code) (hfr : 1 ≤ R.frames) (hlo : (st.map fun v => v.category).sum + 13 ≤ R.locals) (hc : cells ≤ R.cells ∧ slots ≤ R.slots) {x y : Int32} (d : decode cc pc = .ok (.invokestatic index, 3)) (k : J p l e R s m args below meth c D A X nL Q cells slots ws lv (.int (mx x y) :: st) (pc + 3)) : J p l e R s m args below meth c D A X nL Q cells slots ws lv (.int y :: .int x :: st) pc :=
  fun H locs ls hP hD hS h => va_mmax C.1.1 C.1.2.1 (C.1.2.2.1.trans h.1.symm) C.1.2.2.2.1 (C.1.2.2.2.2 _ hw.1) (C.1.2.2.2.2 _ hw.2.1) (C.1.2.2.2.2 _ hw.2.2.1) (C.1.2.2.2.2 _ hw.2.2.2) hfr hlo hc.1 hc.2 d (k H locs ls hP hD hS h)
theorem j_newa (C : Cx p s m args meth c D tys cc nL own) (hA : ∀ q, s.heap.size ≤ q → A q) {t0 : Nat} {cA : ClassId} (ht : tys[t0]? = some (cA, .int)) (harr : Cond.arrayClass .int ∈ BIG) {n : Int32} {N : Nat} (hn : ¬ n < 0) (hN : n.toNatClampNeg = N) (hbytes : N * 4 ≤ 536870912) (hcells : cells + 1 ≤ R.cells) (hslots : slots + N ≤ R.slots) (d : decode cc pc = .ok (.newarray .int, 2)) (k : ∀ q : Nat, J p l e R s m args below meth c D A (va_D A) nL Q (cells + 1) (slots + N) (ws ++ [(q, .inl (cA, N, .inl (fun _ => 0)))]) lv (.ref q :: st) (pc + 2)) : J p l e R s m args below meth c D A (va_D A) nL Q cells slots ws lv (.int n :: st) pc :=
  fun H locs ls hP hD hS h => va_newa (atype := .int) (ty := .int) (a0 := (N, .inl (fun _ => 0))) C.1.1 C.1.2.1 (C.1.2.2.2.2 _ harr) rfl C.2.1 hP hD hS hA (fun _ => rfl) hn hN hbytes hcells hslots d (fun q cA' H1 hK hP1 hD1 hS1 => by
    have h1 : va_RA s cA' .int := (hK.2 tys.length (cA', .int) (by simp)).2
    have h2 : va_RA s cA .int := (C.2.1.2 t0 _ ht).2
    have e : cA' = cA := Option.some.inj (Eq.trans (Eq.symm (h1 : s.vm.findClass _ = some cA')) (h2 : s.vm.findClass _ = some cA))
    subst e
    exact k q H1 locs ls hP1 hD1 hS1 h)
theorem j_tald (C : Cx p s m args meth c D tys cc nL own) {t N : Nat} {f : Nat → Int32} (hT : va_T .int t N (fun j => .int (f j)) A s s.heap) {i : Int32} (hin : vp_in i N) (d : decode cc pc = .ok (.iaload, 1)) (k : J p l e R s m args below meth c D A X nL Q cells slots ws lv (.int (f i.toNatClampNeg) :: st) (pc + 1)) : J p l e R s m args below meth c D A X nL Q cells slots ws lv (.int i :: .ref t :: st) pc :=
  fun H locs ls hP hD hS h => va_ti C.1.1 C.1.2.1 hT hS hin rfl d (k H locs ls hP hD hS h)
theorem j_tlen (C : Cx p s m args meth c D tys cc nL own) {t N : Nat} {f : Nat → Int32} {v : Int32} (hT : va_T .int t N (fun j => .int (f j)) A s s.heap) (hv : Int32.ofNat N = v) (d : decode cc pc = .ok (.arraylength, 1)) (k : J p l e R s m args below meth c D A X nL Q cells slots ws lv (.int v :: st) (pc + 1)) : J p l e R s m args below meth c D A X nL Q cells slots ws lv (.ref t :: st) pc :=
  fun H locs ls hP hD hS h => va_tlen C.1.1 C.1.2.1 hT hS hv d (k H locs ls hP hD hS h)
/-! ===== contracts ===== -/
def no : Nat → Prop := fun _ => False
def KK (D : va_G) (tys : List (ClassId × FieldType)) (U : State) : Prop := va_K D vwCl tys U ∧ NW U
def PcP (av : List Value) (D : va_G) (tys : List (ClassId × FieldType)) (w : va_W) : Array Value → State → Prop := va_Pc av (fun U => va_P D vwCl w U.heap ∧ KK D tys U)
def QcP (r : Int32) : Array Value → State → Outcome → State → Prop := va_Qi (fun r' (_ : Unit) => r' = r) (fun _ _ => True) no
def PcI (av : List Value) (D : va_G) (tys : List (ClassId × FieldType)) (w : va_W) (sz : Nat) : Array Value → State → Prop := va_Pc av (fun U => U.heap.size = sz ∧ va_P D vwCl w U.heap ∧ KK D tys U ∧ va_D (fun _ => True) w)
def QcI {S : Type} (D : va_G) (r : Int32) (w : S → va_W) (A : Nat → Prop) : Array Value → State → Outcome → State → Prop := va_Qi (fun r' (_ : S) => r' = r) (fun q t => va_P D vwCl (w q) t.heap ∧ va_D A (w q)) A
def QcV {S : Type} (D : va_G) (w : S → va_W) (A : Nat → Prop) : Array Value → State → Outcome → State → Prop := va_Qv (fun (_ : S) => True) (fun q t => va_P D vwCl (w q) t.heap ∧ va_D A (w q)) A
theorem j_pret (C : Cx p s m args meth c D tys cc nL own) {r : Int32} (hr : meth.sig.returnType = some .int) (d : decode cc pc = .ok (.ireturn, 1)) : J p l e R s m args below meth c D no X nL (MQ below (QcP r) args s cells slots no) cells slots ws lv [.int r] pc :=
  fun H locs ls hP hD hS h => W.iret C.1.1 C.1.2.1 hr (fun t ht hW => ⟨⟨r, (), rfl, rfl, trivial⟩, hS.F ht⟩) hS.2.2 d C.2.2.2
theorem j_pretZ (C : Cx p s m args meth c D tys cc nL own) {r : Int32} (hr : meth.sig.returnType = some .boolean) (d : decode cc pc = .ok (.ireturn, 1)) (hb : r = 0 ∨ r = 1) : J p l e R s m args below meth c D no X nL (MQ below (QcP r) args s cells slots no) cells slots ws lv [.int r] pc :=
  fun H locs ls hP hD hS h => W.zret C.1.1 C.1.2.1 hr (zb_nar hb) (fun t ht hW => ⟨⟨r, (), rfl, rfl, trivial⟩, hS.F ht⟩) hS.2.2 d C.2.2.2
theorem j_iret (C : Cx p s m args meth c D tys cc nL own) {r : Int32} {S : Type} {w : S → va_W} (hr : meth.sig.returnType = some .int) (d : decode cc pc = .ok (.ireturn, 1)) (q : S) (hw : ws = w q) : J p l e R s m args below meth c D A (va_D A) nL (MQ below (QcI D r w A) args s cells slots A) cells slots ws lv [.int r] pc := by
  subst hw
  exact fun H locs ls hP hD hS h => W.iret C.1.1 C.1.2.1 hr (fun t ht hW => ⟨⟨r, q, rfl, rfl, by rw [ht]; exact hP, hD⟩, hS.F ht⟩) hS.2.2 d C.2.2.2
theorem j_iretZ (C : Cx p s m args meth c D tys cc nL own) {r : Int32} {S : Type} {w : S → va_W} (hr : meth.sig.returnType = some .boolean) (d : decode cc pc = .ok (.ireturn, 1)) (hb : r = 0 ∨ r = 1) (q : S) (hw : ws = w q) : J p l e R s m args below meth c D A (va_D A) nL (MQ below (QcI D r w A) args s cells slots A) cells slots ws lv [.int r] pc := by
  subst hw
  exact fun H locs ls hP hD hS h => W.zret C.1.1 C.1.2.1 hr (zb_nar hb) (fun t ht hW => ⟨⟨r, q, rfl, rfl, by rw [ht]; exact hP, hD⟩, hS.F ht⟩) hS.2.2 d C.2.2.2
theorem j_vret (C : Cx p s m args meth c D tys cc nL own) {S : Type} {w : S → va_W} (hr : meth.sig.returnType = none) (d : decode cc pc = .ok (.return_, 1)) (q : S) (hw : ws = w q) : J p l e R s m args below meth c D A (va_D A) nL (MQ below (QcV D w A) args s cells slots A) cells slots ws lv [] pc := by
  subst hw
  exact fun H locs ls hP hD hS h => W.vret C.1.1 C.1.2.1 hr (fun t ht hW => ⟨⟨q, rfl, trivial, by rw [ht]; exact hP, hD⟩, hS.F ht⟩) hS.2.2 d C.2.2.2
/-! ===== calls: a run of the callee, then on ===== -/
theorem j_P {st0 rest : List Value} {r : Int32} {a : Array Value} (hr : ∀ (H : Heap) (locs : List Loc) (ls : Array Slot), va_P D vwCl ws H → lv_has ls nL lv → va_Run p l e R s m args below meth c H locs cells slots 0 0 (F0 m pc ls st0) rest (QcP r a) no) (k : J p l e R s m args below meth c D A X nL Q cells slots ws lv (.int r :: rest) (pc + 3)) : J p l e R s m args below meth c D A X nL Q cells slots ws lv st0 pc :=
  fun H locs ls hP hD hS h => va_calli (hr H locs ls hP h) hS (fun _ _ z => z.elim) (fun _ z => z.elim) (fun r1 u t H1 locs1 ht hvm hw hB hz hk hS1 => by
    cases hw
    exact k H1 locs1 ls (hP.kept (fun k q hk' => hk q.1 ((hP k q hk').lt) (fun z => z.elim))) hD hS1 h)
theorem j_I {st0 rest : List Value} {r : Int32} {a : Array Value} {mc ms : Nat} {S : Type} {w : S → va_W} {wc : va_W} (hA : ∀ q, s.heap.size ≤ q → A q) (is ir : List Nat) (hs : is.map (fun i => ws[i]?) = wc.map some) (hr0 : ir.map (fun i => ws[i]?) = (ir.filterMap (fun i => ws[i]?)).map some) (hn : va_nd ir = true) (hdis : ∀ i ∈ ir, i ∉ is)
    (hr : ∀ (H : Heap) (locs : List Loc) (ls : Array Slot), va_P D vwCl ws H → va_D A ws → lv_has ls nL lv → va_Run p l e R s m args below meth c H locs cells slots mc ms (F0 m pc ls st0) rest (QcI D r w (va_A wc H.size) a) (va_A wc H.size)) (k : ∀ q : S, J p l e R s m args below meth c D A (va_D A) nL Q (cells + mc) (slots + ms) (ir.filterMap (fun i => ws[i]?) ++ w q) lv (.int r :: rest) (pc + 3)) : J p l e R s m args below meth c D A (va_D A) nL Q cells slots ws lv st0 pc :=
  fun H locs ls hP hD hS h => va_calli (hr H locs ls hP hD h) hS (fun q _ z => va_free hD hS hA is hs q z) (fun q z => va_free hD hS hA is hs q z) (fun r1 u t H1 locs1 ht hvm hw hB hz hk hS1 => by
    cases hw
    obtain ⟨hP1, hD1⟩ := hB
    rw [ht] at hP1
    obtain ⟨hP2, hD2⟩ := va_join hP hD is ir hs hr0 hn hdis hk (va_free hD hS hA is hs) hP1 hD1
    exact k u H1 locs1 ls hP2 hD2 hS1 h)
theorem j_V {st0 rest : List Value} {a : Array Value} {mc ms : Nat} {S : Type} {w : S → va_W} {wc : va_W} (hA : ∀ q, s.heap.size ≤ q → A q) (is ir : List Nat) (hs : is.map (fun i => ws[i]?) = wc.map some) (hr0 : ir.map (fun i => ws[i]?) = (ir.filterMap (fun i => ws[i]?)).map some) (hn : va_nd ir = true) (hdis : ∀ i ∈ ir, i ∉ is)
    (hr : ∀ (H : Heap) (locs : List Loc) (ls : Array Slot), va_P D vwCl ws H → va_D A ws → lv_has ls nL lv → va_Run p l e R s m args below meth c H locs cells slots mc ms (F0 m pc ls st0) rest (QcV D w (va_A wc H.size) a) (va_A wc H.size)) (k : ∀ q : S, J p l e R s m args below meth c D A (va_D A) nL Q (cells + mc) (slots + ms) (ir.filterMap (fun i => ws[i]?) ++ w q) lv rest (pc + 3)) : J p l e R s m args below meth c D A (va_D A) nL Q cells slots ws lv st0 pc :=
  fun H locs ls hP hD hS h => va_callv (hr H locs ls hP hD h) hS (fun q _ z => va_free hD hS hA is hs q z) (fun q z => va_free hD hS hA is hs q z) (fun u t H1 locs1 ht hvm hw hB hz hk hS1 => by
    obtain ⟨hP1, hD1⟩ := hB
    rw [ht] at hP1
    obtain ⟨hP2, hD2⟩ := va_join hP hD is ir hs hr0 hn hdis hk (va_free hD hS hA is hs) hP1 hD1
    exact k u H1 locs1 ls hP2 hD2 hS1 h)

theorem KK.moved {u U : State} (hW : u.WarmedH U.vm) (h : KK D tys u) : KK D tys U := ⟨va_K.moved hW.alike h.1, NW.moved hW h.2⟩
theorem KK.blind {U : State} (g : JFrame) (mk : MethodId) (a : Array Value) (h : KK D tys U) : KK D tys (U.calling g mk a) := ⟨va_K.moved (u := U) (U := U.calling g mk a) (Vm.Alike.refl U.vm) h.1, NW.same (u := U) (U := U.calling g mk a) rfl h.2⟩
theorem PcP.blind {av : List Value} {w : va_W} : FrameBlind (PcP av D tys w) := fun a U g mk q => ⟨q.1, q.2.1, KK.blind g mk a q.2.2⟩
theorem PcI.blind {av : List Value} {w : va_W} {sz : Nat} : FrameBlind (PcI av D tys w sz) := fun a U g mk q => ⟨q.1, q.2.1, q.2.2.1, KK.blind g mk a q.2.2.2.1, q.2.2.2.2⟩
theorem goodC {y : MethodName} {b : ByteArray} {k : Nat} {r : Option FieldType} (hc : Cond.code y b k r ∈ BIG) : GoodIn BIG (Cond.code y b k r :: BIG) := fun w hw => by
  rcases List.mem_cons.mp hw with rfl | h
  · exact ⟨hc, big_good _ hc⟩
  · exact ⟨h, big_good _ h⟩
theorem cB (C : Cx p s m args meth c D tys cc nL own) {y : MethodName} {bytes : ByteArray} {maxL n index mc ms : Nat} {ret : Option FieldType} {rm : Room} (hl : Cond.methodLink own index y ∈ BIG) (hi : Cond.initialized y.cls ∈ BIG) (hc : Cond.code y bytes maxL ret ∈ BIG) (hrc : rm.cells = mc) (hrs : rm.slots = ms) (hd : y.cls ≠ "java/lang/invoke/MethodHandle" ∧ y.cls ≠ "java/lang/invoke/VarHandle" ∧ (parseMethodDescriptor y.desc).map (fun d => d.parameters.length) = some n) (hR : rm.frames + 1 ≤ R.frames ∧ 8 + (maxL + 11) + rm.locals ≤ R.locals) : CallB R s args own index y bytes maxL ret (Cond.code y bytes maxL ret :: BIG) rm mc ms n :=
  callB_of n C.1.2.2.2.2 (goodC hc) rfl hrc hrs (C.1.2.2.2.2 _ hi) (C.1.2.2.2.2 _ hl) hd hR
theorem cN (C : Cx p s m args meth c D tys cc nL own) {y : MethodName} {bytes : ByteArray} {maxL n index mc ms : Nat} {ret : Option FieldType} {rm : Room} {host : String} (hi : Cond.initialized y.cls ∈ BIG) (hl : va_Nw (.methodLinkNest own index y host) s) (hc : Cond.code y bytes maxL ret ∈ BIG) (hrc : rm.cells = mc) (hrs : rm.slots = ms) (hd : y.cls ≠ "java/lang/invoke/MethodHandle" ∧ y.cls ≠ "java/lang/invoke/VarHandle" ∧ (parseMethodDescriptor y.desc).map (fun d => d.parameters.length) = some n) (hR : rm.frames + 1 ≤ R.frames ∧ 8 + (maxL + 11) + rm.locals ≤ R.locals) : va_CN R s args own index y host bytes maxL ret (Cond.code y bytes maxL ret :: BIG) rm mc ms n :=
  va_cnB n C.1.2.2.2.2 (goodC hc) rfl hrc hrs hl (C.1.2.2.2.2 _ hi) hd hR
theorem Cx.kk (C : Cx p s m args meth c D tys cc nL own) : KK D tys s := ⟨C.2.1, C.2.2.1⟩
theorem j_PV (C : Cx p s m args meth c D tys cc nL own) {y : MethodName} {bytes : ByteArray} {maxL n index : Nat} {ret : Option FieldType} {rm : Room} {b : Nat} (As : List Value) {rest st0 : List Value} {wc : va_W} {r : Int32} (q0 : Nat) {ci : Nat} {fs : List Value} {qc : vw_C} (he : ws[q0]? = some (b, .inr (ci, fs))) (hc : vwCl[ci]? = some qc) (hM : Met l y (Cond.code y bytes maxL ret :: BIG) rm (PcP (.ref b :: As) D tys wc) (QcP r) 0 0 no) (cw : CallW R s args own qc.1 index y bytes maxL ret (Cond.code y bytes maxL ret :: BIG) rm 0 0 n) (is : List Nat) (hs : is.map (fun i => ws[i]?) = wc.map some) (hn : As.length = n) (hst : st0 = As.reverse ++ .ref b :: rest) (hW : (rest.map fun v => v.category).sum ≤ 8) (d : decode cc pc = .ok (.invokevirtual index, 3)) (hf : cells ≤ R.cells ∧ slots ≤ R.slots) (k : J p l e R s m args below meth c D A X nL Q cells slots ws lv (.int r :: rest) (pc + 3)) : J p l e R s m args below meth c D A X nL Q cells slots ws lv st0 pc := by
  subst hst
  exact j_P (a := (Value.ref b :: As).toArray) (fun H locs ls hP h => va_runV C.1 hM cw ⟨PcP.blind, va_recv C.2.1 hP hc he, fun U hU hW1 => ⟨rfl, by rw [hU]; exact P_map hP is hs, C.kk.moved hW1⟩⟩ rfl hn h.1 rfl (lv_room hW) d hf) k
theorem j_PVN (C : Cx p s m args meth c D tys cc nL own) {y : MethodName} {bytes : ByteArray} {maxL n index : Nat} {ret : Option FieldType} {rm : Room} {b : Nat} (As : List Value) {rest st0 : List Value} {wc : va_W} {r : Int32} {host : String} (q0 : Nat) {ci : Nat} {fs : List Value} {qc : vw_C} (he : ws[q0]? = some (b, .inr (ci, fs))) (hc : vwCl[ci]? = some qc) (hM : Met l y (Cond.code y bytes maxL ret :: BIG) rm (PcP (.ref b :: As) D tys wc) (QcP r) 0 0 no) (cw : va_CN R s args own index y host bytes maxL ret (Cond.code y bytes maxL ret :: BIG) rm 0 0 n ∧ (Cond.instanceMethod y).before args s = true ∧ (Cond.selects qc.1 y y).before args s = true) (is : List Nat) (hs : is.map (fun i => ws[i]?) = wc.map some) (hn : As.length = n) (hst : st0 = As.reverse ++ .ref b :: rest) (hW : (rest.map fun v => v.category).sum ≤ 8) (d : decode cc pc = .ok (.invokevirtual index, 3)) (hf : cells ≤ R.cells ∧ slots ≤ R.slots) (k : J p l e R s m args below meth c D A X nL Q cells slots ws lv (.int r :: rest) (pc + 3)) : J p l e R s m args below meth c D A X nL Q cells slots ws lv st0 pc := by
  subst hst
  exact j_P (a := (Value.ref b :: As).toArray) (fun H locs ls hP h => va_runVN C.1 hM cw ⟨PcP.blind, va_recv C.2.1 hP hc he, fun U hU hW1 => ⟨rfl, by rw [hU]; exact P_map hP is hs, C.kk.moved hW1⟩⟩ rfl hn h.1 rfl (lv_room hW) d hf) k
theorem j_PS (C : Cx p s m args meth c D tys cc nL own) {y : MethodName} {bytes : ByteArray} {maxL n index : Nat} {ret : Option FieldType} {rm : Room} (As : List Value) {rest st0 : List Value} {wc : va_W} {r : Int32} (hM : Met l y (Cond.code y bytes maxL ret :: BIG) rm (PcP As D tys wc) (QcP r) 0 0 no) (cw : CallB R s args own index y bytes maxL ret (Cond.code y bytes maxL ret :: BIG) rm 0 0 n ∧ (Cond.static y).before args s = true) (is : List Nat) (hs : is.map (fun i => ws[i]?) = wc.map some) (hn : As.length = n) (hst : st0 = As.reverse ++ rest) (hW : (rest.map fun v => v.category).sum ≤ 8) (d : decode cc pc = .ok (.invokestatic index, 3)) (hf : cells ≤ R.cells ∧ slots ≤ R.slots) (k : J p l e R s m args below meth c D A X nL Q cells slots ws lv (.int r :: rest) (pc + 3)) : J p l e R s m args below meth c D A X nL Q cells slots ws lv st0 pc := by
  subst hst
  exact j_P (a := As.toArray) (fun H locs ls hP h => va_runS C.1 hM cw ⟨PcP.blind, fun U hU hW1 => ⟨rfl, by rw [hU]; exact P_map hP is hs, C.kk.moved hW1⟩⟩ rfl hn h.1 rfl (lv_room hW) d hf) k
theorem j_PSN (C : Cx p s m args meth c D tys cc nL own) {y : MethodName} {bytes : ByteArray} {maxL n index : Nat} {ret : Option FieldType} {rm : Room} (As : List Value) {rest st0 : List Value} {wc : va_W} {r : Int32} {host : String} (hM : Met l y (Cond.code y bytes maxL ret :: BIG) rm (PcP As D tys wc) (QcP r) 0 0 no) (cw : va_CN R s args own index y host bytes maxL ret (Cond.code y bytes maxL ret :: BIG) rm 0 0 n ∧ (Cond.static y).before args s = true ∧ True) (is : List Nat) (hs : is.map (fun i => ws[i]?) = wc.map some) (hn : As.length = n) (hst : st0 = As.reverse ++ rest) (hW : (rest.map fun v => v.category).sum ≤ 8) (d : decode cc pc = .ok (.invokestatic index, 3)) (hf : cells ≤ R.cells ∧ slots ≤ R.slots) (k : J p l e R s m args below meth c D A X nL Q cells slots ws lv (.int r :: rest) (pc + 3)) : J p l e R s m args below meth c D A X nL Q cells slots ws lv st0 pc := by
  subst hst
  exact j_P (a := As.toArray) (fun H locs ls hP h => va_runSN C.1 hM cw ⟨PcP.blind, fun U hU hW1 => ⟨rfl, by rw [hU]; exact P_map hP is hs, C.kk.moved hW1⟩⟩ rfl hn h.1 rfl (lv_room hW) d hf) k
theorem j_IV (C : Cx p s m args meth c D tys cc nL own) {y : MethodName} {bytes : ByteArray} {maxL n index : Nat} {ret : Option FieldType} {rm : Room} {b : Nat} (As : List Value) {rest st0 : List Value} {wc : va_W} {S : Type} {w : S → va_W} {r : Int32} {mc ms : Nat} (hA : ∀ q, s.heap.size ≤ q → A q) (q0 : Nat) {ci : Nat} {fs : List Value} {qc : vw_C} (he : ws[q0]? = some (b, .inr (ci, fs))) (hc : vwCl[ci]? = some qc) (hM : ∀ sz : Nat, Met l y (Cond.code y bytes maxL ret :: BIG) rm (PcI (.ref b :: As) D tys wc sz) (QcI D r w (va_A wc sz)) mc ms (va_A wc sz)) (cw : CallW R s args own qc.1 index y bytes maxL ret (Cond.code y bytes maxL ret :: BIG) rm mc ms n) (is ir : List Nat) (hs : is.map (fun i => ws[i]?) = wc.map some) (hr0 : ir.map (fun i => ws[i]?) = (ir.filterMap (fun i => ws[i]?)).map some) (hnd : va_nd is = true) (hn0 : va_nd ir = true) (hdis : ∀ i ∈ ir, i ∉ is) (hn : As.length = n) (hst : st0 = As.reverse ++ .ref b :: rest) (hW : (rest.map fun v => v.category).sum ≤ 8) (d : decode cc pc = .ok (.invokevirtual index, 3)) (hf : cells + mc ≤ R.cells ∧ slots + ms ≤ R.slots) (k : ∀ q : S, J p l e R s m args below meth c D A (va_D A) nL Q (cells + mc) (slots + ms) (ir.filterMap (fun i => ws[i]?) ++ w q) lv (.int r :: rest) (pc + 3)) : J p l e R s m args below meth c D A (va_D A) nL Q cells slots ws lv st0 pc := by
  subst hst
  exact j_I (a := (Value.ref b :: As).toArray) (w := w) hA is ir hs hr0 hn0 hdis (fun H locs ls hP hD h => va_runV C.1 (hM H.size) cw ⟨PcI.blind, va_recv C.2.1 hP hc he, fun U hU hW1 => ⟨rfl, by rw [hU], by rw [hU]; exact P_map hP is hs, C.kk.moved hW1, (hD.sub is hnd hs).weaken (fun _ _ _ _ => trivial)⟩⟩ rfl hn h.1 rfl (lv_room hW) d hf) k
theorem j_IVN (C : Cx p s m args meth c D tys cc nL own) {y : MethodName} {bytes : ByteArray} {maxL n index : Nat} {ret : Option FieldType} {rm : Room} {b : Nat} (As : List Value) {rest st0 : List Value} {wc : va_W} {S : Type} {w : S → va_W} {r : Int32} {mc ms : Nat} {host : String} (hA : ∀ q, s.heap.size ≤ q → A q) (q0 : Nat) {ci : Nat} {fs : List Value} {qc : vw_C} (he : ws[q0]? = some (b, .inr (ci, fs))) (hc : vwCl[ci]? = some qc) (hM : ∀ sz : Nat, Met l y (Cond.code y bytes maxL ret :: BIG) rm (PcI (.ref b :: As) D tys wc sz) (QcI D r w (va_A wc sz)) mc ms (va_A wc sz)) (cw : va_CN R s args own index y host bytes maxL ret (Cond.code y bytes maxL ret :: BIG) rm mc ms n ∧ (Cond.instanceMethod y).before args s = true ∧ (Cond.selects qc.1 y y).before args s = true) (is ir : List Nat) (hs : is.map (fun i => ws[i]?) = wc.map some) (hr0 : ir.map (fun i => ws[i]?) = (ir.filterMap (fun i => ws[i]?)).map some) (hnd : va_nd is = true) (hn0 : va_nd ir = true) (hdis : ∀ i ∈ ir, i ∉ is) (hn : As.length = n) (hst : st0 = As.reverse ++ .ref b :: rest) (hW : (rest.map fun v => v.category).sum ≤ 8) (d : decode cc pc = .ok (.invokevirtual index, 3)) (hf : cells + mc ≤ R.cells ∧ slots + ms ≤ R.slots) (k : ∀ q : S, J p l e R s m args below meth c D A (va_D A) nL Q (cells + mc) (slots + ms) (ir.filterMap (fun i => ws[i]?) ++ w q) lv (.int r :: rest) (pc + 3)) : J p l e R s m args below meth c D A (va_D A) nL Q cells slots ws lv st0 pc := by
  subst hst
  exact j_I (a := (Value.ref b :: As).toArray) (w := w) hA is ir hs hr0 hn0 hdis (fun H locs ls hP hD h => va_runVN C.1 (hM H.size) cw ⟨PcI.blind, va_recv C.2.1 hP hc he, fun U hU hW1 => ⟨rfl, by rw [hU], by rw [hU]; exact P_map hP is hs, C.kk.moved hW1, (hD.sub is hnd hs).weaken (fun _ _ _ _ => trivial)⟩⟩ rfl hn h.1 rfl (lv_room hW) d hf) k
theorem j_VV (C : Cx p s m args meth c D tys cc nL own) {y : MethodName} {bytes : ByteArray} {maxL n index : Nat} {ret : Option FieldType} {rm : Room} {b : Nat} (As : List Value) {rest st0 : List Value} {wc : va_W} {S : Type} {w : S → va_W} {mc ms : Nat} (hA : ∀ q, s.heap.size ≤ q → A q) (q0 : Nat) {ci : Nat} {fs : List Value} {qc : vw_C} (he : ws[q0]? = some (b, .inr (ci, fs))) (hc : vwCl[ci]? = some qc) (hM : ∀ sz : Nat, Met l y (Cond.code y bytes maxL ret :: BIG) rm (PcI (.ref b :: As) D tys wc sz) (QcV D w (va_A wc sz)) mc ms (va_A wc sz)) (cw : CallW R s args own qc.1 index y bytes maxL ret (Cond.code y bytes maxL ret :: BIG) rm mc ms n) (is ir : List Nat) (hs : is.map (fun i => ws[i]?) = wc.map some) (hr0 : ir.map (fun i => ws[i]?) = (ir.filterMap (fun i => ws[i]?)).map some) (hnd : va_nd is = true) (hn0 : va_nd ir = true) (hdis : ∀ i ∈ ir, i ∉ is) (hn : As.length = n) (hst : st0 = As.reverse ++ .ref b :: rest) (hW : (rest.map fun v => v.category).sum ≤ 8) (d : decode cc pc = .ok (.invokevirtual index, 3)) (hf : cells + mc ≤ R.cells ∧ slots + ms ≤ R.slots) (k : ∀ q : S, J p l e R s m args below meth c D A (va_D A) nL Q (cells + mc) (slots + ms) (ir.filterMap (fun i => ws[i]?) ++ w q) lv rest (pc + 3)) : J p l e R s m args below meth c D A (va_D A) nL Q cells slots ws lv st0 pc := by
  subst hst
  exact j_V (a := (Value.ref b :: As).toArray) (w := w) hA is ir hs hr0 hn0 hdis (fun H locs ls hP hD h => va_runV C.1 (hM H.size) cw ⟨PcI.blind, va_recv C.2.1 hP hc he, fun U hU hW1 => ⟨rfl, by rw [hU], by rw [hU]; exact P_map hP is hs, C.kk.moved hW1, (hD.sub is hnd hs).weaken (fun _ _ _ _ => trivial)⟩⟩ rfl hn h.1 rfl (lv_room hW) d hf) k
theorem j_VVN (C : Cx p s m args meth c D tys cc nL own) {y : MethodName} {bytes : ByteArray} {maxL n index : Nat} {ret : Option FieldType} {rm : Room} {b : Nat} (As : List Value) {rest st0 : List Value} {wc : va_W} {S : Type} {w : S → va_W} {mc ms : Nat} {host : String} (hA : ∀ q, s.heap.size ≤ q → A q) (q0 : Nat) {ci : Nat} {fs : List Value} {qc : vw_C} (he : ws[q0]? = some (b, .inr (ci, fs))) (hc : vwCl[ci]? = some qc) (hM : ∀ sz : Nat, Met l y (Cond.code y bytes maxL ret :: BIG) rm (PcI (.ref b :: As) D tys wc sz) (QcV D w (va_A wc sz)) mc ms (va_A wc sz)) (cw : va_CN R s args own index y host bytes maxL ret (Cond.code y bytes maxL ret :: BIG) rm mc ms n ∧ (Cond.instanceMethod y).before args s = true ∧ (Cond.selects qc.1 y y).before args s = true) (is ir : List Nat) (hs : is.map (fun i => ws[i]?) = wc.map some) (hr0 : ir.map (fun i => ws[i]?) = (ir.filterMap (fun i => ws[i]?)).map some) (hnd : va_nd is = true) (hn0 : va_nd ir = true) (hdis : ∀ i ∈ ir, i ∉ is) (hn : As.length = n) (hst : st0 = As.reverse ++ .ref b :: rest) (hW : (rest.map fun v => v.category).sum ≤ 8) (d : decode cc pc = .ok (.invokevirtual index, 3)) (hf : cells + mc ≤ R.cells ∧ slots + ms ≤ R.slots) (k : ∀ q : S, J p l e R s m args below meth c D A (va_D A) nL Q (cells + mc) (slots + ms) (ir.filterMap (fun i => ws[i]?) ++ w q) lv rest (pc + 3)) : J p l e R s m args below meth c D A (va_D A) nL Q cells slots ws lv st0 pc := by
  subst hst
  exact j_V (a := (Value.ref b :: As).toArray) (w := w) hA is ir hs hr0 hn0 hdis (fun H locs ls hP hD h => va_runVN C.1 (hM H.size) cw ⟨PcI.blind, va_recv C.2.1 hP hc he, fun U hU hW1 => ⟨rfl, by rw [hU], by rw [hU]; exact P_map hP is hs, C.kk.moved hW1, (hD.sub is hnd hs).weaken (fun _ _ _ _ => trivial)⟩⟩ rfl hn h.1 rfl (lv_room hW) d hf) k
theorem j_Is {st0 rest : List Value} {r : Int32} {a : Array Value} {mc ms : Nat} {S : Type} {w : S → va_W} {wc : va_W} (hA : ∀ q, s.heap.size ≤ q → A q) (is ir : List Nat) (hs : is.map (fun i => ws[i]?) = wc.map some) (hr0 : ir.map (fun i => ws[i]?) = (ir.filterMap (fun i => ws[i]?)).map some) (hn : va_nd ir = true) (hdis : ∀ i ∈ ir, i ∉ is)
    (hr : ∀ (H : Heap) (locs : List Loc) (ls : Array Slot), va_P D vwCl ws H → va_D A ws → va_S A s.heap H locs → lv_has ls nL lv → va_Run p l e R s m args below meth c H locs cells slots mc ms (F0 m pc ls st0) rest (QcI D r w (va_A wc H.size) a) (va_A wc H.size)) (k : ∀ q : S, J p l e R s m args below meth c D A (va_D A) nL Q (cells + mc) (slots + ms) (ir.filterMap (fun i => ws[i]?) ++ w q) lv (.int r :: rest) (pc + 3)) : J p l e R s m args below meth c D A (va_D A) nL Q cells slots ws lv st0 pc :=
  fun H locs ls hP hD hS h => va_calli (hr H locs ls hP hD hS h) hS (fun q _ z => va_free hD hS hA is hs q z) (fun q z => va_free hD hS hA is hs q z) (fun r1 u t H1 locs1 ht hvm hw hB hz hk hS1 => by
    cases hw; obtain ⟨hP1, hD1⟩ := hB
    rw [ht] at hP1
    obtain ⟨hP2, hD2⟩ := va_join hP hD is ir hs hr0 hn hdis hk (va_free hD hS hA is hs) hP1 hD1
    exact k u H1 locs1 ls hP2 hD2 hS1 h)
theorem j_Vs {st0 rest : List Value} {a : Array Value} {mc ms : Nat} {S : Type} {w : S → va_W} {wc : va_W} (hA : ∀ q, s.heap.size ≤ q → A q) (is ir : List Nat) (hs : is.map (fun i => ws[i]?) = wc.map some) (hr0 : ir.map (fun i => ws[i]?) = (ir.filterMap (fun i => ws[i]?)).map some) (hn : va_nd ir = true) (hdis : ∀ i ∈ ir, i ∉ is)
    (hr : ∀ (H : Heap) (locs : List Loc) (ls : Array Slot), va_P D vwCl ws H → va_D A ws → va_S A s.heap H locs → lv_has ls nL lv → va_Run p l e R s m args below meth c H locs cells slots mc ms (F0 m pc ls st0) rest (QcV D w (va_A wc H.size) a) (va_A wc H.size)) (k : ∀ q : S, J p l e R s m args below meth c D A (va_D A) nL Q (cells + mc) (slots + ms) (ir.filterMap (fun i => ws[i]?) ++ w q) lv rest (pc + 3)) : J p l e R s m args below meth c D A (va_D A) nL Q cells slots ws lv st0 pc :=
  fun H locs ls hP hD hS h => va_callv (hr H locs ls hP hD hS h) hS (fun q _ z => va_free hD hS hA is hs q z) (fun q z => va_free hD hS hA is hs q z) (fun u t H1 locs1 ht hvm hw hB hz hk hS1 => by
    obtain ⟨hP1, hD1⟩ := hB
    rw [ht] at hP1
    obtain ⟨hP2, hD2⟩ := va_join hP hD is ir hs hr0 hn hdis hk (va_free hD hS hA is hs) hP1 hD1
    exact k u H1 locs1 ls hP2 hD2 hS1 h)
def SX (t1 t2 : Nat) (A : Nat → Prop) (U : State) (H : Heap) : Prop := va_Z "MaskLayers" "HEAD_LEAST" "[I" (.ref t1) A U H ∧ va_T .int t1 7 (fun j => .int (hdLo j)) A U H ∧ va_Z "MaskLayers" "HEAD_MOST" "[I" (.ref t2) A U H ∧ va_T .int t2 7 (fun j => .int (hdHi j)) A U H
theorem SX.call {t1 t2 : Nat} {U : State} {H : Heap} {locs : List Loc} {B : Nat → Prop} (hX : SX t1 t2 A s s.heap) (hW : s.WarmedH U.vm) (hU : U.heap = H) (hS : va_S A s.heap H locs) (hB : ∀ q, B q → A q) : SX t1 t2 B U U.heap := by
  rw [hU]
  exact ⟨((hX.1.kept hS.2.1).narrow hB).moved hW.alike, ((hX.2.1.kept hS.2.1).narrow hB).moved hW.alike, ((hX.2.2.1.kept hS.2.1).narrow hB).moved hW.alike, ((hX.2.2.2.kept hS.2.1).narrow hB).moved hW.alike⟩
theorem SX.same {t1 t2 : Nat} {u U : State} {H : Heap} {B : Nat → Prop} (hvm : u.vm.Alike U.vm) (hX : SX t1 t2 B u H) : SX t1 t2 B U H := ⟨hX.1.moved hvm, hX.2.1.moved hvm, hX.2.2.1.moved hvm, hX.2.2.2.moved hvm⟩
def PcS (t1 t2 : Nat) (av : List Value) (D : va_G) (tys : List (ClassId × FieldType)) (w : va_W) (sz : Nat) : Array Value → State → Prop := va_Pc av (fun U => U.heap.size = sz ∧ va_P D vwCl w U.heap ∧ KK D tys U ∧ va_D (fun _ => True) w ∧ SX t1 t2 (va_A w sz) U U.heap)
theorem PcS.blind {t1 t2 : Nat} {av : List Value} {w : va_W} {sz : Nat} : FrameBlind (PcS t1 t2 av D tys w sz) := fun a U g mk q => ⟨q.1, q.2.1, q.2.2.1, KK.blind g mk a q.2.2.2.1, q.2.2.2.2.1, SX.same (u := U) (U := U.calling g mk a) (Vm.Alike.refl U.vm) q.2.2.2.2.2⟩
theorem j_VS (C : Cx p s m args meth c D tys cc nL own) {y : MethodName} {bytes : ByteArray} {maxL n index : Nat} {ret : Option FieldType} {rm : Room} (As : List Value) {rest st0 : List Value} {wc : va_W} {S : Type} {w : S → va_W} {mc ms : Nat} (hA : ∀ q, s.heap.size ≤ q → A q) (hM : ∀ sz : Nat, Met l y (Cond.code y bytes maxL ret :: BIG) rm (PcI As D tys wc sz) (QcV D w (va_A wc sz)) mc ms (va_A wc sz)) (cw : CallB R s args own index y bytes maxL ret (Cond.code y bytes maxL ret :: BIG) rm mc ms n ∧ (Cond.static y).before args s = true) (is ir : List Nat) (hs : is.map (fun i => ws[i]?) = wc.map some) (hr0 : ir.map (fun i => ws[i]?) = (ir.filterMap (fun i => ws[i]?)).map some) (hnd : va_nd is = true) (hn0 : va_nd ir = true) (hdis : ∀ i ∈ ir, i ∉ is) (hn : As.length = n) (hst : st0 = As.reverse ++ rest) (hW : (rest.map fun v => v.category).sum ≤ 8) (d : decode cc pc = .ok (.invokestatic index, 3)) (hf : cells + mc ≤ R.cells ∧ slots + ms ≤ R.slots) (k : ∀ q : S, J p l e R s m args below meth c D A (va_D A) nL Q (cells + mc) (slots + ms) (ir.filterMap (fun i => ws[i]?) ++ w q) lv rest (pc + 3)) : J p l e R s m args below meth c D A (va_D A) nL Q cells slots ws lv st0 pc := by
  subst hst
  exact j_Vs (a := As.toArray) (w := w) hA is ir hs hr0 hn0 hdis (fun H locs ls hP hD hS h => va_runS C.1 (hM H.size) cw ⟨PcI.blind, fun U hU hW1 => ⟨rfl, by rw [hU], by rw [hU]; exact P_map hP is hs, C.kk.moved hW1, (hD.sub is hnd hs).weaken (fun _ _ _ _ => trivial)⟩⟩ rfl hn h.1 rfl (lv_room hW) d hf) k
theorem j_IVs (C : Cx p s m args meth c D tys cc nL own) {y : MethodName} {bytes : ByteArray} {maxL n index : Nat} {ret : Option FieldType} {rm : Room} {b : Nat} (As : List Value) {rest st0 : List Value} {wc : va_W} {S : Type} {w : S → va_W} {r : Int32} {mc ms : Nat} (hA : ∀ q, s.heap.size ≤ q → A q) {t1 t2 : Nat} (hX : SX t1 t2 A s s.heap) (q0 : Nat) {ci : Nat} {fs : List Value} {qc : vw_C} (he : ws[q0]? = some (b, .inr (ci, fs))) (hc : vwCl[ci]? = some qc) (hM : ∀ sz : Nat, Met l y (Cond.code y bytes maxL ret :: BIG) rm (PcS t1 t2 (.ref b :: As) D tys wc sz) (QcI D r w (va_A wc sz)) mc ms (va_A wc sz)) (cw : CallW R s args own qc.1 index y bytes maxL ret (Cond.code y bytes maxL ret :: BIG) rm mc ms n) (is ir : List Nat) (hs : is.map (fun i => ws[i]?) = wc.map some) (hr0 : ir.map (fun i => ws[i]?) = (ir.filterMap (fun i => ws[i]?)).map some) (hnd : va_nd is = true) (hn0 : va_nd ir = true) (hdis : ∀ i ∈ ir, i ∉ is) (hn : As.length = n) (hst : st0 = As.reverse ++ .ref b :: rest) (hW : (rest.map fun v => v.category).sum ≤ 8) (d : decode cc pc = .ok (.invokevirtual index, 3)) (hf : cells + mc ≤ R.cells ∧ slots + ms ≤ R.slots) (k : ∀ q : S, J p l e R s m args below meth c D A (va_D A) nL Q (cells + mc) (slots + ms) (ir.filterMap (fun i => ws[i]?) ++ w q) lv (.int r :: rest) (pc + 3)) : J p l e R s m args below meth c D A (va_D A) nL Q cells slots ws lv st0 pc := by
  subst hst
  exact j_Is (a := (Value.ref b :: As).toArray) (w := w) hA is ir hs hr0 hn0 hdis (fun H locs ls hP hD hS h => va_runV C.1 (hM H.size) cw ⟨PcS.blind, va_recv C.2.1 hP hc he, fun U hU hW1 => ⟨rfl, by rw [hU], by rw [hU]; exact P_map hP is hs, C.kk.moved hW1, (hD.sub is hnd hs).weaken (fun _ _ _ _ => trivial), SX.call hX hW1 hU hS (va_free hD hS hA is hs)⟩⟩ rfl hn h.1 rfl (lv_room hW) d hf) k
theorem j_VVs (C : Cx p s m args meth c D tys cc nL own) {y : MethodName} {bytes : ByteArray} {maxL n index : Nat} {ret : Option FieldType} {rm : Room} {b : Nat} (As : List Value) {rest st0 : List Value} {wc : va_W} {S : Type} {w : S → va_W} {mc ms : Nat} (hA : ∀ q, s.heap.size ≤ q → A q) {t1 t2 : Nat} (hX : SX t1 t2 A s s.heap) (q0 : Nat) {ci : Nat} {fs : List Value} {qc : vw_C} (he : ws[q0]? = some (b, .inr (ci, fs))) (hc : vwCl[ci]? = some qc) (hM : ∀ sz : Nat, Met l y (Cond.code y bytes maxL ret :: BIG) rm (PcS t1 t2 (.ref b :: As) D tys wc sz) (QcV D w (va_A wc sz)) mc ms (va_A wc sz)) (cw : CallW R s args own qc.1 index y bytes maxL ret (Cond.code y bytes maxL ret :: BIG) rm mc ms n) (is ir : List Nat) (hs : is.map (fun i => ws[i]?) = wc.map some) (hr0 : ir.map (fun i => ws[i]?) = (ir.filterMap (fun i => ws[i]?)).map some) (hnd : va_nd is = true) (hn0 : va_nd ir = true) (hdis : ∀ i ∈ ir, i ∉ is) (hn : As.length = n) (hst : st0 = As.reverse ++ .ref b :: rest) (hW : (rest.map fun v => v.category).sum ≤ 8) (d : decode cc pc = .ok (.invokevirtual index, 3)) (hf : cells + mc ≤ R.cells ∧ slots + ms ≤ R.slots) (k : ∀ q : S, J p l e R s m args below meth c D A (va_D A) nL Q (cells + mc) (slots + ms) (ir.filterMap (fun i => ws[i]?) ++ w q) lv rest (pc + 3)) : J p l e R s m args below meth c D A (va_D A) nL Q cells slots ws lv st0 pc := by
  subst hst
  exact j_Vs (a := (Value.ref b :: As).toArray) (w := w) hA is ir hs hr0 hn0 hdis (fun H locs ls hP hD hS h => va_runV C.1 (hM H.size) cw ⟨PcS.blind, va_recv C.2.1 hP hc he, fun U hU hW1 => ⟨rfl, by rw [hU], by rw [hU]; exact P_map hP is hs, C.kk.moved hW1, (hD.sub is hnd hs).weaken (fun _ _ _ _ => trivial), SX.call hX hW1 hU hS (va_free hD hS hA is hs)⟩⟩ rfl hn h.1 rfl (lv_room hW) d hf) k
theorem j_VI (C : Cx p s m args meth c D tys cc nL own) {y : MethodName} {bytes : ByteArray} {maxL n index : Nat} {ret : Option FieldType} {rm : Room} {b : Nat} (As : List Value) {rest st0 : List Value} {wc : va_W} {S : Type} {w : S → va_W} {mc ms : Nat} (hA : ∀ q, s.heap.size ≤ q → A q) (hM : ∀ sz : Nat, Met l y (Cond.code y bytes maxL none :: BIG) rm (PcI (.ref b :: As) D tys wc sz) (QcV D w (va_A wc sz)) mc ms (va_A wc sz)) (cw : CallB R s args own index y bytes maxL none (Cond.code y bytes maxL none :: BIG) rm mc ms n ∧ y.name = "<init>" ∧ (Cond.instanceMethod y).before args s = true) (is ir : List Nat) (hs : is.map (fun i => ws[i]?) = wc.map some) (hr0 : ir.map (fun i => ws[i]?) = (ir.filterMap (fun i => ws[i]?)).map some) (hnd : va_nd is = true) (hn0 : va_nd ir = true) (hdis : ∀ i ∈ ir, i ∉ is) (hn : As.length = n) (hst : st0 = As.reverse ++ .ref b :: rest) (hW : (rest.map fun v => v.category).sum ≤ 8) (d : decode cc pc = .ok (.invokespecial index, 3)) (hf : cells + mc ≤ R.cells ∧ slots + ms ≤ R.slots) (k : ∀ q : S, J p l e R s m args below meth c D A (va_D A) nL Q (cells + mc) (slots + ms) (ir.filterMap (fun i => ws[i]?) ++ w q) lv rest (pc + 3)) : J p l e R s m args below meth c D A (va_D A) nL Q cells slots ws lv st0 pc := by
  subst hst
  exact j_Vs (a := (Value.ref b :: As).toArray) (w := w) hA is ir hs hr0 hn0 hdis (fun H locs ls hP hD hS h => va_runI C.1 (hM H.size) cw ⟨PcI.blind, fun U hU hW1 => ⟨rfl, by rw [hU], by rw [hU]; exact P_map hP is hs, C.kk.moved hW1, (hD.sub is hnd hs).weaken (fun _ _ _ _ => trivial)⟩⟩ rfl hn h.1 rfl (lv_room hW) d hf) k
theorem j_VIs (C : Cx p s m args meth c D tys cc nL own) {y : MethodName} {bytes : ByteArray} {maxL n index : Nat} {ret : Option FieldType} {rm : Room} {b : Nat} (As : List Value) {rest st0 : List Value} {wc : va_W} {S : Type} {w : S → va_W} {mc ms : Nat} (hA : ∀ q, s.heap.size ≤ q → A q) {t1 t2 : Nat} (hX : SX t1 t2 A s s.heap) (hM : ∀ sz : Nat, Met l y (Cond.code y bytes maxL none :: BIG) rm (PcS t1 t2 (.ref b :: As) D tys wc sz) (QcV D w (va_A wc sz)) mc ms (va_A wc sz)) (cw : CallB R s args own index y bytes maxL none (Cond.code y bytes maxL none :: BIG) rm mc ms n ∧ y.name = "<init>" ∧ (Cond.instanceMethod y).before args s = true) (is ir : List Nat) (hs : is.map (fun i => ws[i]?) = wc.map some) (hr0 : ir.map (fun i => ws[i]?) = (ir.filterMap (fun i => ws[i]?)).map some) (hnd : va_nd is = true) (hn0 : va_nd ir = true) (hdis : ∀ i ∈ ir, i ∉ is) (hn : As.length = n) (hst : st0 = As.reverse ++ .ref b :: rest) (hW : (rest.map fun v => v.category).sum ≤ 8) (d : decode cc pc = .ok (.invokespecial index, 3)) (hf : cells + mc ≤ R.cells ∧ slots + ms ≤ R.slots) (k : ∀ q : S, J p l e R s m args below meth c D A (va_D A) nL Q (cells + mc) (slots + ms) (ir.filterMap (fun i => ws[i]?) ++ w q) lv rest (pc + 3)) : J p l e R s m args below meth c D A (va_D A) nL Q cells slots ws lv st0 pc := by
  subst hst
  exact j_Vs (a := (Value.ref b :: As).toArray) (w := w) hA is ir hs hr0 hn0 hdis (fun H locs ls hP hD hS h => va_runI C.1 (hM H.size) cw ⟨PcS.blind, fun U hU hW1 => ⟨rfl, by rw [hU], by rw [hU]; exact P_map hP is hs, C.kk.moved hW1, (hD.sub is hnd hs).weaken (fun _ _ _ _ => trivial), SX.call hX hW1 hU hS (va_free hD hS hA is hs)⟩⟩ rfl hn h.1 rfl (lv_room hW) d hf) k
end JR
theorem met_P {l : Launch} {y : MethodName} {cc : ByteArray} {maxL : Nat} {rt : FieldType} {rm : Room} {av : List Value} {D : va_G} {tys : List (ClassId × FieldType)} {w : va_W} {r : Int32} (hy : plainName y.cls = true) (hlen : (lg_sl av).length ≤ maxL)
    (body : ∀ (p : Program) (e : Env) (s : State) (m : MethodId) (args : Array Value) (below : List Frame) (meth : Method) (c : Code), Cx p s m args meth c D tys cc maxL y.cls → meth.sig.returnType = some rt → J p l e rm s m args below meth c D no (fun _ => True) maxL (MQ below (QcP r) args s 0 0 no) 0 0 w (lv_args 0 av) [] 0) : Met l y (Cond.code y cc maxL (some rt) :: BIG) rm (PcP av D tys w) (QcP r) 0 0 no := by
  refine Met.ofW (cc := cc) (maxL := maxL) (ret := some rt) hy rfl ?_
  intro p e s m args below meth c s₁ B hml hv
  obtain ⟨rfl, hP, hKK⟩ := hv
  have hts := atoms_spec (ws := Cond.code y cc maxL (some rt) :: BIG) B.pre
  have hown : s.vm.findClass y.cls = some m.cls := findClass_of_methodNamed B.named
  have hl := lv_entry av (n := maxL) hlen
  rw [lg_entry_eq]
  exact body p e s m _ below meth c ⟨⟨B.exec, B.bytes, hml, hown, fun w hw => hts w (List.mem_cons_of_mem _ hw)⟩, hKK.1, hKK.2, B.notSynchronized⟩ B.returns s.heap [] _ hP trivial va_S.rf hl
theorem met_I {l : Launch} {y : MethodName} {cc : ByteArray} {maxL mc ms : Nat} {rt : FieldType} {rm : Room} {av : List Value} {D : va_G} {tys : List (ClassId × FieldType)} {w : va_W} {S : Type} {w1 : S → va_W} {r : Int32} {sz : Nat} (hy : plainName y.cls = true) (hlen : (lg_sl av).length ≤ maxL)
    (body : ∀ (p : Program) (e : Env) (s : State) (m : MethodId) (args : Array Value) (below : List Frame) (meth : Method) (c : Code) (A : Nat → Prop), (∀ q : Nat, s.heap.size ≤ q → A q) → Cx p s m args meth c D tys cc maxL y.cls → meth.sig.returnType = some rt → J p l e rm s m args below meth c D A (va_D A) maxL (MQ below (QcI D r w1 A) args s mc ms A) 0 0 w (lv_args 0 av) [] 0) : Met l y (Cond.code y cc maxL (some rt) :: BIG) rm (PcI av D tys w sz) (QcI D r w1 (va_A w sz)) mc ms (va_A w sz) := by
  refine Met.ofW (cc := cc) (maxL := maxL) (ret := some rt) hy rfl ?_
  intro p e s m args below meth c s₁ B hml hv
  obtain ⟨rfl, hsz, hP, hKK, hD0⟩ := hv
  subst hsz
  have hts := atoms_spec (ws := Cond.code y cc maxL (some rt) :: BIG) B.pre
  have hown : s.vm.findClass y.cls = some m.cls := findClass_of_methodNamed B.named
  have hl := lv_entry av (n := maxL) hlen
  rw [lg_entry_eq]
  exact body p e s m _ below meth c (va_A w s.heap.size) (fun q h => Or.inr h) ⟨⟨B.exec, B.bytes, hml, hown, fun w hw => hts w (List.mem_cons_of_mem _ hw)⟩, hKK.1, hKK.2, B.notSynchronized⟩ B.returns s.heap [] _ hP hD0.self va_S.rf hl
theorem met_V {l : Launch} {y : MethodName} {cc : ByteArray} {maxL mc ms : Nat} {rm : Room} {av : List Value} {D : va_G} {tys : List (ClassId × FieldType)} {w : va_W} {S : Type} {w1 : S → va_W} {sz : Nat} (hy : plainName y.cls = true) (hlen : (lg_sl av).length ≤ maxL)
    (body : ∀ (p : Program) (e : Env) (s : State) (m : MethodId) (args : Array Value) (below : List Frame) (meth : Method) (c : Code) (A : Nat → Prop), (∀ q : Nat, s.heap.size ≤ q → A q) → Cx p s m args meth c D tys cc maxL y.cls → meth.sig.returnType = none → J p l e rm s m args below meth c D A (va_D A) maxL (MQ below (QcV D w1 A) args s mc ms A) 0 0 w (lv_args 0 av) [] 0) : Met l y (Cond.code y cc maxL none :: BIG) rm (PcI av D tys w sz) (QcV D w1 (va_A w sz)) mc ms (va_A w sz) := by
  refine Met.ofW (cc := cc) (maxL := maxL) (ret := none) hy rfl ?_
  intro p e s m args below meth c s₁ B hml hv
  obtain ⟨rfl, hsz, hP, hKK, hD0⟩ := hv
  subst hsz
  have hts := atoms_spec (ws := Cond.code y cc maxL none :: BIG) B.pre
  have hown : s.vm.findClass y.cls = some m.cls := findClass_of_methodNamed B.named
  have hl := lv_entry av (n := maxL) hlen
  rw [lg_entry_eq]
  exact body p e s m _ below meth c (va_A w s.heap.size) (fun q h => Or.inr h) ⟨⟨B.exec, B.bytes, hml, hown, fun w hw => hts w (List.mem_cons_of_mem _ hw)⟩, hKK.1, hKK.2, B.notSynchronized⟩ B.returns s.heap [] _ hP hD0.self va_S.rf hl
theorem met_Is {t1 t2 : Nat} {l : Launch} {y : MethodName} {cc : ByteArray} {maxL mc ms : Nat} {rt : FieldType} {rm : Room} {av : List Value} {D : va_G} {tys : List (ClassId × FieldType)} {w : va_W} {S : Type} {w1 : S → va_W} {r : Int32} {sz : Nat} (hy : plainName y.cls = true) (hlen : (lg_sl av).length ≤ maxL)
    (body : ∀ (p : Program) (e : Env) (s : State) (m : MethodId) (args : Array Value) (below : List Frame) (meth : Method) (c : Code) (A : Nat → Prop), (∀ q : Nat, s.heap.size ≤ q → A q) → SX t1 t2 A s s.heap → Cx p s m args meth c D tys cc maxL y.cls → meth.sig.returnType = some rt → J p l e rm s m args below meth c D A (va_D A) maxL (MQ below (QcI D r w1 A) args s mc ms A) 0 0 w (lv_args 0 av) [] 0) : Met l y (Cond.code y cc maxL (some rt) :: BIG) rm (PcS t1 t2 av D tys w sz) (QcI D r w1 (va_A w sz)) mc ms (va_A w sz) := by
  refine Met.ofW (cc := cc) (maxL := maxL) (ret := some rt) hy rfl ?_
  intro p e s m args below meth c s₁ B hml hv
  obtain ⟨rfl, hsz, hP, hKK, hD0, hX⟩ := hv
  subst hsz
  have hts := atoms_spec (ws := Cond.code y cc maxL (some rt) :: BIG) B.pre
  have hown : s.vm.findClass y.cls = some m.cls := findClass_of_methodNamed B.named
  have hl := lv_entry av (n := maxL) hlen
  rw [lg_entry_eq]
  exact body p e s m _ below meth c (va_A w s.heap.size) (fun q h => Or.inr h) hX ⟨⟨B.exec, B.bytes, hml, hown, fun w hw => hts w (List.mem_cons_of_mem _ hw)⟩, hKK.1, hKK.2, B.notSynchronized⟩ B.returns s.heap [] _ hP hD0.self va_S.rf hl
theorem met_Vs {t1 t2 : Nat} {l : Launch} {y : MethodName} {cc : ByteArray} {maxL mc ms : Nat} {rm : Room} {av : List Value} {D : va_G} {tys : List (ClassId × FieldType)} {w : va_W} {S : Type} {w1 : S → va_W} {sz : Nat} (hy : plainName y.cls = true) (hlen : (lg_sl av).length ≤ maxL)
    (body : ∀ (p : Program) (e : Env) (s : State) (m : MethodId) (args : Array Value) (below : List Frame) (meth : Method) (c : Code) (A : Nat → Prop), (∀ q : Nat, s.heap.size ≤ q → A q) → SX t1 t2 A s s.heap → Cx p s m args meth c D tys cc maxL y.cls → meth.sig.returnType = none → J p l e rm s m args below meth c D A (va_D A) maxL (MQ below (QcV D w1 A) args s mc ms A) 0 0 w (lv_args 0 av) [] 0) : Met l y (Cond.code y cc maxL none :: BIG) rm (PcS t1 t2 av D tys w sz) (QcV D w1 (va_A w sz)) mc ms (va_A w sz) := by
  refine Met.ofW (cc := cc) (maxL := maxL) (ret := none) hy rfl ?_
  intro p e s m args below meth c s₁ B hml hv
  obtain ⟨rfl, hsz, hP, hKK, hD0, hX⟩ := hv
  subst hsz
  have hts := atoms_spec (ws := Cond.code y cc maxL none :: BIG) B.pre
  have hown : s.vm.findClass y.cls = some m.cls := findClass_of_methodNamed B.named
  have hl := lv_entry av (n := maxL) hlen
  rw [lg_entry_eq]
  exact body p e s m _ below meth c (va_A w s.heap.size) (fun q h => Or.inr h) hX ⟨⟨B.exec, B.bytes, hml, hown, fun w hw => hts w (List.mem_cons_of_mem _ hw)⟩, hKK.1, hKK.2, B.notSynchronized⟩ B.returns s.heap [] _ hP hD0.self va_S.rf hl
end
section
section WO
variable {p : Program} {l : Launch} {e : Env} {R : Room} {s : State} {m : MethodId} {args : Array Value} {below : List Frame} {meth : Method} {c : Code} {D : va_G} {A : Nat → Prop} {X : va_W → Prop} {nL : Nat} {Q : State → Prop} {cells slots : Nat} {ws : va_W} {lv : List (Nat × Value)} {st : List Value} {pc : Nat}
variable {tys : List (ClassId × FieldType)} {cc : ByteArray}
theorem gf_ByteRow_15 (C : Cx p s m args meth c D tys cc nL "MaskLayers$ByteRow") (q0 : Nat) {a : Nat} {fs : List Value} {v : Value} (he : ws[q0]? = some (a, .inr (0, fs))) (hv : fs[1]? = some v) (d : decode cc pc = .ok (.getfield 15, 3)) (kk : J p l e R s m args below meth c D A X nL Q cells slots ws lv (v :: st) (pc + 3)) : J p l e R s m args below meth c D A X nL Q cells slots ws lv (.ref a :: st) pc :=
  fun H locs ls hP hD hS h => va_get (C := cn0) (T := cf0) (N := 2) C.1.1 C.1.2.1 C.1.2.2.2.2 ch0 C.1.2.2.2.1 C.2.1 hP q0 he rfl 1 (by decide) (C.1.2.2.2.2 (.fieldLink "MaskLayers$ByteRow" 15 "MaskLayers$ByteRow" "count" "I") (mb (List.mem_of_getElem? (i := 145) (by decide +kernel)) rfl)) (fun _ h9 => h9) hv d (kk H locs ls hP hD hS h)
theorem gf_ByteRow_9 (C : Cx p s m args meth c D tys cc nL "MaskLayers$ByteRow") (q0 : Nat) {a : Nat} {fs : List Value} {v : Value} (he : ws[q0]? = some (a, .inr (0, fs))) (hv : fs[0]? = some v) (d : decode cc pc = .ok (.getfield 9, 3)) (kk : J p l e R s m args below meth c D A X nL Q cells slots ws lv (v :: st) (pc + 3)) : J p l e R s m args below meth c D A X nL Q cells slots ws lv (.ref a :: st) pc :=
  fun H locs ls hP hD hS h => va_get (C := cn0) (T := cf0) (N := 2) C.1.1 C.1.2.1 C.1.2.2.2.2 ch0 C.1.2.2.2.1 C.2.1 hP q0 he rfl 0 (by decide) (C.1.2.2.2.2 (.fieldLink "MaskLayers$ByteRow" 9 "MaskLayers$ByteRow" "row" "[I") (mb (List.mem_of_getElem? (i := 143) (by decide +kernel)) rfl)) (fun _ h9 => h9) hv d (kk H locs ls hP hD hS h)
theorem gf_Layers_11 (C : Cx p s m args meth c D tys cc nL "MaskLayers$Layers") (q0 : Nat) {a : Nat} {fs : List Value} {v : Value} (he : ws[q0]? = some (a, .inr (1, fs))) (hv : fs[0]? = some v) (d : decode cc pc = .ok (.getfield 11, 3)) (kk : J p l e R s m args below meth c D A X nL Q cells slots ws lv (v :: st) (pc + 3)) : J p l e R s m args below meth c D A X nL Q cells slots ws lv (.ref a :: st) pc :=
  fun H locs ls hP hD hS h => va_get (C := cn1) (T := cf1) (N := 8) C.1.1 C.1.2.1 C.1.2.2.2.2 ch1 C.1.2.2.2.1 C.2.1 hP q0 he rfl 0 (by decide) (C.1.2.2.2.2 (.fieldLink "MaskLayers$Layers" 11 "MaskLayers$Layers" "values" "[[I") (mb (List.mem_of_getElem? (i := 96) (by decide +kernel)) rfl)) (fun _ h9 => h9) hv d (kk H locs ls hP hD hS h)
theorem gf_Layers_16 (C : Cx p s m args meth c D tys cc nL "MaskLayers$Layers") (q0 : Nat) {a : Nat} {fs : List Value} {v : Value} (he : ws[q0]? = some (a, .inr (1, fs))) (hv : fs[1]? = some v) (d : decode cc pc = .ok (.getfield 16, 3)) (kk : J p l e R s m args below meth c D A X nL Q cells slots ws lv (v :: st) (pc + 3)) : J p l e R s m args below meth c D A X nL Q cells slots ws lv (.ref a :: st) pc :=
  fun H locs ls hP hD hS h => va_get (C := cn1) (T := cf1) (N := 8) C.1.1 C.1.2.1 C.1.2.2.2.2 ch1 C.1.2.2.2.1 C.2.1 hP q0 he rfl 1 (by decide) (C.1.2.2.2.2 (.fieldLink "MaskLayers$Layers" 16 "MaskLayers$Layers" "there" "[I") (mb (List.mem_of_getElem? (i := 100) (by decide +kernel)) rfl)) (fun _ h9 => h9) hv d (kk H locs ls hP hD hS h)
theorem gf_Layers_20 (C : Cx p s m args meth c D tys cc nL "MaskLayers$Layers") (q0 : Nat) {a : Nat} {fs : List Value} {v : Value} (he : ws[q0]? = some (a, .inr (1, fs))) (hv : fs[2]? = some v) (d : decode cc pc = .ok (.getfield 20, 3)) (kk : J p l e R s m args below meth c D A X nL Q cells slots ws lv (v :: st) (pc + 3)) : J p l e R s m args below meth c D A X nL Q cells slots ws lv (.ref a :: st) pc :=
  fun H locs ls hP hD hS h => va_get (C := cn1) (T := cf1) (N := 8) C.1.1 C.1.2.1 C.1.2.2.2.2 ch1 C.1.2.2.2.1 C.2.1 hP q0 he rfl 2 (by decide) (C.1.2.2.2.2 (.fieldLink "MaskLayers$Layers" 20 "MaskLayers$Layers" "scales" "[I") (mb (List.mem_of_getElem? (i := 101) (by decide +kernel)) rfl)) (fun _ h9 => h9) hv d (kk H locs ls hP hD hS h)
theorem gf_Layers_23 (C : Cx p s m args meth c D tys cc nL "MaskLayers$Layers") (q0 : Nat) {a : Nat} {fs : List Value} {v : Value} (he : ws[q0]? = some (a, .inr (1, fs))) (hv : fs[3]? = some v) (d : decode cc pc = .ok (.getfield 23, 3)) (kk : J p l e R s m args below meth c D A X nL Q cells slots ws lv (v :: st) (pc + 3)) : J p l e R s m args below meth c D A X nL Q cells slots ws lv (.ref a :: st) pc :=
  fun H locs ls hP hD hS h => va_get (C := cn1) (T := cf1) (N := 8) C.1.1 C.1.2.1 C.1.2.2.2.2 ch1 C.1.2.2.2.1 C.2.1 hP q0 he rfl 3 (by decide) (C.1.2.2.2.2 (.fieldLink "MaskLayers$Layers" 23 "MaskLayers$Layers" "columns" "[I") (mb (List.mem_of_getElem? (i := 104) (by decide +kernel)) rfl)) (fun _ h9 => h9) hv d (kk H locs ls hP hD hS h)
theorem gf_Layers_26 (C : Cx p s m args meth c D tys cc nL "MaskLayers$Layers") (q0 : Nat) {a : Nat} {fs : List Value} {v : Value} (he : ws[q0]? = some (a, .inr (1, fs))) (hv : fs[6]? = some v) (d : decode cc pc = .ok (.getfield 26, 3)) (kk : J p l e R s m args below meth c D A X nL Q cells slots ws lv (v :: st) (pc + 3)) : J p l e R s m args below meth c D A X nL Q cells slots ws lv (.ref a :: st) pc :=
  fun H locs ls hP hD hS h => va_get (C := cn1) (T := cf1) (N := 8) C.1.1 C.1.2.1 C.1.2.2.2.2 ch1 C.1.2.2.2.1 C.2.1 hP q0 he rfl 6 (by decide) (C.1.2.2.2.2 (.fieldLink "MaskLayers$Layers" 26 "MaskLayers$Layers" "step" "I") (mb (List.mem_of_getElem? (i := 113) (by decide +kernel)) rfl)) (fun _ h9 => h9) hv d (kk H locs ls hP hD hS h)
theorem gf_Layers_36 (C : Cx p s m args meth c D tys cc nL "MaskLayers$Layers") (q0 : Nat) {a : Nat} {fs : List Value} {v : Value} (he : ws[q0]? = some (a, .inr (1, fs))) (hv : fs[7]? = some v) (d : decode cc pc = .ok (.getfield 36, 3)) (kk : J p l e R s m args below meth c D A X nL Q cells slots ws lv (v :: st) (pc + 3)) : J p l e R s m args below meth c D A X nL Q cells slots ws lv (.ref a :: st) pc :=
  fun H locs ls hP hD hS h => va_get (C := cn1) (T := cf1) (N := 8) C.1.1 C.1.2.1 C.1.2.2.2.2 ch1 C.1.2.2.2.1 C.2.1 hP q0 he rfl 7 (by decide) (C.1.2.2.2.2 (.fieldLink "MaskLayers$Layers" 36 "MaskLayers$Layers" "count" "I") (mb (List.mem_of_getElem? (i := 115) (by decide +kernel)) rfl)) (fun _ h9 => h9) hv d (kk H locs ls hP hD hS h)
theorem gf_Layers_39 (C : Cx p s m args meth c D tys cc nL "MaskLayers$Layers") (q0 : Nat) {a : Nat} {fs : List Value} {v : Value} (he : ws[q0]? = some (a, .inr (1, fs))) (hv : fs[4]? = some v) (d : decode cc pc = .ok (.getfield 39, 3)) (kk : J p l e R s m args below meth c D A X nL Q cells slots ws lv (v :: st) (pc + 3)) : J p l e R s m args below meth c D A X nL Q cells slots ws lv (.ref a :: st) pc :=
  fun H locs ls hP hD hS h => va_get (C := cn1) (T := cf1) (N := 8) C.1.1 C.1.2.1 C.1.2.2.2.2 ch1 C.1.2.2.2.1 C.2.1 hP q0 he rfl 4 (by decide) (C.1.2.2.2.2 (.fieldLink "MaskLayers$Layers" 39 "MaskLayers$Layers" "width" "I") (mb (List.mem_of_getElem? (i := 106) (by decide +kernel)) rfl)) (fun _ h9 => h9) hv d (kk H locs ls hP hD hS h)
theorem gf_Layers_42 (C : Cx p s m args meth c D tys cc nL "MaskLayers$Layers") (q0 : Nat) {a : Nat} {fs : List Value} {v : Value} (he : ws[q0]? = some (a, .inr (1, fs))) (hv : fs[5]? = some v) (d : decode cc pc = .ok (.getfield 42, 3)) (kk : J p l e R s m args below meth c D A X nL Q cells slots ws lv (v :: st) (pc + 3)) : J p l e R s m args below meth c D A X nL Q cells slots ws lv (.ref a :: st) pc :=
  fun H locs ls hP hD hS h => va_get (C := cn1) (T := cf1) (N := 8) C.1.1 C.1.2.1 C.1.2.2.2.2 ch1 C.1.2.2.2.1 C.2.1 hP q0 he rfl 5 (by decide) (C.1.2.2.2.2 (.fieldLink "MaskLayers$Layers" 42 "MaskLayers$Layers" "height" "I") (mb (List.mem_of_getElem? (i := 110) (by decide +kernel)) rfl)) (fun _ h9 => h9) hv d (kk H locs ls hP hD hS h)
theorem gf_Maker_113 (C : Cx p s m args meth c D tys cc nL "MaskLayers$Maker") (q0 : Nat) {a : Nat} {fs : List Value} {v : Value} (he : ws[q0]? = some (a, .inr (1, fs))) (hv : fs[4]? = some v) (d : decode cc pc = .ok (.getfield 113, 3)) (kk : J p l e R s m args below meth c D A X nL Q cells slots ws lv (v :: st) (pc + 3)) : J p l e R s m args below meth c D A X nL Q cells slots ws lv (.ref a :: st) pc :=
  fun H locs ls hP hD hS h => va_getN (C := cn1) (T := cf1) (N := 8) C.1.1 C.1.2.1 C.1.2.2.2.2 ch1 C.1.2.2.2.1 C.2.1 hP q0 he rfl 4 (by decide) (va_Nw.use rfl (C.2.2.1 (.fieldLinkNest "MaskLayers$Maker" 113 "MaskLayers$Layers" "width" "I" "MaskLayers") (nwm (List.mem_of_getElem? (i := 108) (by decide +kernel)) rfl))) (fun _ h9 => h9) hv d (kk H locs ls hP hD hS h)
theorem gf_Maker_15 (C : Cx p s m args meth c D tys cc nL "MaskLayers$Maker") (q0 : Nat) {a : Nat} {fs : List Value} {v : Value} (he : ws[q0]? = some (a, .inr (2, fs))) (hv : fs[1]? = some v) (d : decode cc pc = .ok (.getfield 15, 3)) (kk : J p l e R s m args below meth c D A X nL Q cells slots ws lv (v :: st) (pc + 3)) : J p l e R s m args below meth c D A X nL Q cells slots ws lv (.ref a :: st) pc :=
  fun H locs ls hP hD hS h => va_get (C := cn2) (T := cf2) (N := 4) C.1.1 C.1.2.1 C.1.2.2.2.2 ch2 C.1.2.2.2.1 C.2.1 hP q0 he rfl 1 (by decide) (C.1.2.2.2.2 (.fieldLink "MaskLayers$Maker" 15 "MaskLayers$Maker" "colours" "[I") (mb (List.mem_of_getElem? (i := 161) (by decide +kernel)) rfl)) (fun _ h9 => h9) hv d (kk H locs ls hP hD hS h)
theorem gf_Maker_19 (C : Cx p s m args meth c D tys cc nL "MaskLayers$Maker") (q0 : Nat) {a : Nat} {fs : List Value} {v : Value} (he : ws[q0]? = some (a, .inr (2, fs))) (hv : fs[2]? = some v) (d : decode cc pc = .ok (.getfield 19, 3)) (kk : J p l e R s m args below meth c D A X nL Q cells slots ws lv (v :: st) (pc + 3)) : J p l e R s m args below meth c D A X nL Q cells slots ws lv (.ref a :: st) pc :=
  fun H locs ls hP hD hS h => va_get (C := cn2) (T := cf2) (N := 4) C.1.1 C.1.2.1 C.1.2.2.2.2 ch2 C.1.2.2.2.1 C.2.1 hP q0 he rfl 2 (by decide) (C.1.2.2.2.2 (.fieldLink "MaskLayers$Maker" 19 "MaskLayers$Maker" "masked" "[I") (mb (List.mem_of_getElem? (i := 162) (by decide +kernel)) rfl)) (fun _ h9 => h9) hv d (kk H locs ls hP hD hS h)
theorem gf_Maker_22 (C : Cx p s m args meth c D tys cc nL "MaskLayers$Maker") (q0 : Nat) {a : Nat} {fs : List Value} {v : Value} (he : ws[q0]? = some (a, .inr (2, fs))) (hv : fs[3]? = some v) (d : decode cc pc = .ok (.getfield 22, 3)) (kk : J p l e R s m args below meth c D A X nL Q cells slots ws lv (v :: st) (pc + 3)) : J p l e R s m args below meth c D A X nL Q cells slots ws lv (.ref a :: st) pc :=
  fun H locs ls hP hD hS h => va_get (C := cn2) (T := cf2) (N := 4) C.1.1 C.1.2.1 C.1.2.2.2.2 ch2 C.1.2.2.2.1 C.2.1 hP q0 he rfl 3 (by decide) (C.1.2.2.2.2 (.fieldLink "MaskLayers$Maker" 22 "MaskLayers$Maker" "bare" "[I") (mb (List.mem_of_getElem? (i := 163) (by decide +kernel)) rfl)) (fun _ h9 => h9) hv d (kk H locs ls hP hD hS h)
theorem gf_Maker_44 (C : Cx p s m args meth c D tys cc nL "MaskLayers$Maker") (q0 : Nat) {a : Nat} {fs : List Value} {v : Value} (he : ws[q0]? = some (a, .inr (1, fs))) (hv : fs[7]? = some v) (d : decode cc pc = .ok (.getfield 44, 3)) (kk : J p l e R s m args below meth c D A X nL Q cells slots ws lv (v :: st) (pc + 3)) : J p l e R s m args below meth c D A X nL Q cells slots ws lv (.ref a :: st) pc :=
  fun H locs ls hP hD hS h => va_getN (C := cn1) (T := cf1) (N := 8) C.1.1 C.1.2.1 C.1.2.2.2.2 ch1 C.1.2.2.2.1 C.2.1 hP q0 he rfl 7 (by decide) (va_Nw.use rfl (C.2.2.1 (.fieldLinkNest "MaskLayers$Maker" 44 "MaskLayers$Layers" "count" "I" "MaskLayers") (nwm (List.mem_of_getElem? (i := 116) (by decide +kernel)) rfl))) (fun _ h9 => h9) hv d (kk H locs ls hP hD hS h)
theorem gf_Maker_85 (C : Cx p s m args meth c D tys cc nL "MaskLayers$Maker") (q0 : Nat) {a : Nat} {fs : List Value} {v : Value} (he : ws[q0]? = some (a, .inr (1, fs))) (hv : fs[0]? = some v) (d : decode cc pc = .ok (.getfield 85, 3)) (kk : J p l e R s m args below meth c D A X nL Q cells slots ws lv (v :: st) (pc + 3)) : J p l e R s m args below meth c D A X nL Q cells slots ws lv (.ref a :: st) pc :=
  fun H locs ls hP hD hS h => va_getN (C := cn1) (T := cf1) (N := 8) C.1.1 C.1.2.1 C.1.2.2.2.2 ch1 C.1.2.2.2.1 C.2.1 hP q0 he rfl 0 (by decide) (va_Nw.use rfl (C.2.2.1 (.fieldLinkNest "MaskLayers$Maker" 85 "MaskLayers$Layers" "values" "[[I" "MaskLayers") (nwm (List.mem_of_getElem? (i := 98) (by decide +kernel)) rfl))) (fun _ h9 => h9) hv d (kk H locs ls hP hD hS h)
theorem gf_Maker_9 (C : Cx p s m args meth c D tys cc nL "MaskLayers$Maker") (q0 : Nat) {a : Nat} {fs : List Value} {v : Value} (he : ws[q0]? = some (a, .inr (2, fs))) (hv : fs[0]? = some v) (d : decode cc pc = .ok (.getfield 9, 3)) (kk : J p l e R s m args below meth c D A X nL Q cells slots ws lv (v :: st) (pc + 3)) : J p l e R s m args below meth c D A X nL Q cells slots ws lv (.ref a :: st) pc :=
  fun H locs ls hP hD hS h => va_get (C := cn2) (T := cf2) (N := 4) C.1.1 C.1.2.1 C.1.2.2.2.2 ch2 C.1.2.2.2.1 C.2.1 hP q0 he rfl 0 (by decide) (C.1.2.2.2.2 (.fieldLink "MaskLayers$Maker" 9 "MaskLayers$Maker" "layers" "LMaskLayers$Layers;") (mb (List.mem_of_getElem? (i := 160) (by decide +kernel)) rfl)) (fun _ h9 => h9) hv d (kk H locs ls hP hD hS h)
theorem gf_Maker_92 (C : Cx p s m args meth c D tys cc nL "MaskLayers$Maker") (q0 : Nat) {a : Nat} {fs : List Value} {v : Value} (he : ws[q0]? = some (a, .inr (1, fs))) (hv : fs[3]? = some v) (d : decode cc pc = .ok (.getfield 92, 3)) (kk : J p l e R s m args below meth c D A X nL Q cells slots ws lv (v :: st) (pc + 3)) : J p l e R s m args below meth c D A X nL Q cells slots ws lv (.ref a :: st) pc :=
  fun H locs ls hP hD hS h => va_getN (C := cn1) (T := cf1) (N := 8) C.1.1 C.1.2.1 C.1.2.2.2.2 ch1 C.1.2.2.2.1 C.2.1 hP q0 he rfl 3 (by decide) (va_Nw.use rfl (C.2.2.1 (.fieldLinkNest "MaskLayers$Maker" 92 "MaskLayers$Layers" "columns" "[I" "MaskLayers") (nwm (List.mem_of_getElem? (i := 105) (by decide +kernel)) rfl))) (fun _ h9 => h9) hv d (kk H locs ls hP hD hS h)
theorem gf_Maker_99 (C : Cx p s m args meth c D tys cc nL "MaskLayers$Maker") (q0 : Nat) {a : Nat} {fs : List Value} {v : Value} (he : ws[q0]? = some (a, .inr (1, fs))) (hv : fs[2]? = some v) (d : decode cc pc = .ok (.getfield 99, 3)) (kk : J p l e R s m args below meth c D A X nL Q cells slots ws lv (v :: st) (pc + 3)) : J p l e R s m args below meth c D A X nL Q cells slots ws lv (.ref a :: st) pc :=
  fun H locs ls hP hD hS h => va_getN (C := cn1) (T := cf1) (N := 8) C.1.1 C.1.2.1 C.1.2.2.2.2 ch1 C.1.2.2.2.1 C.2.1 hP q0 he rfl 2 (by decide) (va_Nw.use rfl (C.2.2.1 (.fieldLinkNest "MaskLayers$Maker" 99 "MaskLayers$Layers" "scales" "[I" "MaskLayers") (nwm (List.mem_of_getElem? (i := 103) (by decide +kernel)) rfl))) (fun _ h9 => h9) hv d (kk H locs ls hP hD hS h)
theorem gf_Reader_118 (C : Cx p s m args meth c D tys cc nL "MaskLayers$Reader") (q0 : Nat) {a : Nat} {fs : List Value} {v : Value} (he : ws[q0]? = some (a, .inr (1, fs))) (hv : fs[0]? = some v) (d : decode cc pc = .ok (.getfield 118, 3)) (kk : J p l e R s m args below meth c D A X nL Q cells slots ws lv (v :: st) (pc + 3)) : J p l e R s m args below meth c D A X nL Q cells slots ws lv (.ref a :: st) pc :=
  fun H locs ls hP hD hS h => va_getN (C := cn1) (T := cf1) (N := 8) C.1.1 C.1.2.1 C.1.2.2.2.2 ch1 C.1.2.2.2.1 C.2.1 hP q0 he rfl 0 (by decide) (va_Nw.use rfl (C.2.2.1 (.fieldLinkNest "MaskLayers$Reader" 118 "MaskLayers$Layers" "values" "[[I" "MaskLayers") (nwm (List.mem_of_getElem? (i := 99) (by decide +kernel)) rfl))) (fun _ h9 => h9) hv d (kk H locs ls hP hD hS h)
theorem gf_Reader_15 (C : Cx p s m args meth c D tys cc nL "MaskLayers$Reader") (q0 : Nat) {a : Nat} {fs : List Value} {v : Value} (he : ws[q0]? = some (a, .inr (3, fs))) (hv : fs[1]? = some v) (d : decode cc pc = .ok (.getfield 15, 3)) (kk : J p l e R s m args below meth c D A X nL Q cells slots ws lv (v :: st) (pc + 3)) : J p l e R s m args below meth c D A X nL Q cells slots ws lv (.ref a :: st) pc :=
  fun H locs ls hP hD hS h => va_get (C := cn3) (T := cf3) (N := 5) C.1.1 C.1.2.1 C.1.2.2.2.2 ch3 C.1.2.2.2.1 C.2.1 hP q0 he rfl 1 (by decide) (C.1.2.2.2.2 (.fieldLink "MaskLayers$Reader" 15 "MaskLayers$Reader" "layers" "LMaskLayers$Layers;") (mb (List.mem_of_getElem? (i := 195) (by decide +kernel)) rfl)) (fun _ h9 => h9) hv d (kk H locs ls hP hD hS h)
theorem gf_Reader_23 (C : Cx p s m args meth c D tys cc nL "MaskLayers$Reader") (q0 : Nat) {a : Nat} {fs : List Value} {v : Value} (he : ws[q0]? = some (a, .inr (3, fs))) (hv : fs[2]? = some v) (d : decode cc pc = .ok (.getfield 23, 3)) (kk : J p l e R s m args below meth c D A X nL Q cells slots ws lv (v :: st) (pc + 3)) : J p l e R s m args below meth c D A X nL Q cells slots ws lv (.ref a :: st) pc :=
  fun H locs ls hP hD hS h => va_get (C := cn3) (T := cf3) (N := 5) C.1.1 C.1.2.1 C.1.2.2.2.2 ch3 C.1.2.2.2.1 C.2.1 hP q0 he rfl 2 (by decide) (C.1.2.2.2.2 (.fieldLink "MaskLayers$Reader" 23 "MaskLayers$Reader" "head" "[I") (mb (List.mem_of_getElem? (i := 196) (by decide +kernel)) rfl)) (fun _ h9 => h9) hv d (kk H locs ls hP hD hS h)
theorem gf_Reader_26 (C : Cx p s m args meth c D tys cc nL "MaskLayers$Reader") (q0 : Nat) {a : Nat} {fs : List Value} {v : Value} (he : ws[q0]? = some (a, .inr (3, fs))) (hv : fs[3]? = some v) (d : decode cc pc = .ok (.getfield 26, 3)) (kk : J p l e R s m args below meth c D A X nL Q cells slots ws lv (v :: st) (pc + 3)) : J p l e R s m args below meth c D A X nL Q cells slots ws lv (.ref a :: st) pc :=
  fun H locs ls hP hD hS h => va_get (C := cn3) (T := cf3) (N := 5) C.1.1 C.1.2.1 C.1.2.2.2.2 ch3 C.1.2.2.2.1 C.2.1 hP q0 he rfl 3 (by decide) (C.1.2.2.2.2 (.fieldLink "MaskLayers$Reader" 26 "MaskLayers$Reader" "place" "I") (mb (List.mem_of_getElem? (i := 197) (by decide +kernel)) rfl)) (fun _ h9 => h9) hv d (kk H locs ls hP hD hS h)
theorem gf_Reader_47 (C : Cx p s m args meth c D tys cc nL "MaskLayers$Reader") (q0 : Nat) {a : Nat} {fs : List Value} {v : Value} (he : ws[q0]? = some (a, .inr (0, fs))) (hv : fs[1]? = some v) (d : decode cc pc = .ok (.getfield 47, 3)) (kk : J p l e R s m args below meth c D A X nL Q cells slots ws lv (v :: st) (pc + 3)) : J p l e R s m args below meth c D A X nL Q cells slots ws lv (.ref a :: st) pc :=
  fun H locs ls hP hD hS h => va_getN (C := cn0) (T := cf0) (N := 2) C.1.1 C.1.2.1 C.1.2.2.2.2 ch0 C.1.2.2.2.1 C.2.1 hP q0 he rfl 1 (by decide) (va_Nw.use rfl (C.2.2.1 (.fieldLinkNest "MaskLayers$Reader" 47 "MaskLayers$ByteRow" "count" "I" "MaskLayers") (nwm (List.mem_of_getElem? (i := 146) (by decide +kernel)) rfl))) (fun _ h9 => h9) hv d (kk H locs ls hP hD hS h)
theorem gf_Reader_55 (C : Cx p s m args meth c D tys cc nL "MaskLayers$Reader") (q0 : Nat) {a : Nat} {fs : List Value} {v : Value} (he : ws[q0]? = some (a, .inr (1, fs))) (hv : fs[7]? = some v) (d : decode cc pc = .ok (.getfield 55, 3)) (kk : J p l e R s m args below meth c D A X nL Q cells slots ws lv (v :: st) (pc + 3)) : J p l e R s m args below meth c D A X nL Q cells slots ws lv (.ref a :: st) pc :=
  fun H locs ls hP hD hS h => va_getN (C := cn1) (T := cf1) (N := 8) C.1.1 C.1.2.1 C.1.2.2.2.2 ch1 C.1.2.2.2.1 C.2.1 hP q0 he rfl 7 (by decide) (va_Nw.use rfl (C.2.2.1 (.fieldLinkNest "MaskLayers$Reader" 55 "MaskLayers$Layers" "count" "I" "MaskLayers") (nwm (List.mem_of_getElem? (i := 117) (by decide +kernel)) rfl))) (fun _ h9 => h9) hv d (kk H locs ls hP hD hS h)
theorem gf_Reader_56 (C : Cx p s m args meth c D tys cc nL "MaskLayers$Reader") (q0 : Nat) {a : Nat} {fs : List Value} {v : Value} (he : ws[q0]? = some (a, .inr (3, fs))) (hv : fs[4]? = some v) (d : decode cc pc = .ok (.getfield 56, 3)) (kk : J p l e R s m args below meth c D A X nL Q cells slots ws lv (v :: st) (pc + 3)) : J p l e R s m args below meth c D A X nL Q cells slots ws lv (.ref a :: st) pc :=
  fun H locs ls hP hD hS h => va_get (C := cn3) (T := cf3) (N := 5) C.1.1 C.1.2.1 C.1.2.2.2.2 ch3 C.1.2.2.2.1 C.2.1 hP q0 he rfl 4 (by decide) (C.1.2.2.2.2 (.fieldLink "MaskLayers$Reader" 56 "MaskLayers$Reader" "refusedAt" "I") (mb (List.mem_of_getElem? (i := 198) (by decide +kernel)) rfl)) (fun _ h9 => h9) hv d (kk H locs ls hP hD hS h)
theorem gf_Reader_59 (C : Cx p s m args meth c D tys cc nL "MaskLayers$Reader") (q0 : Nat) {a : Nat} {fs : List Value} {v : Value} (he : ws[q0]? = some (a, .inr (0, fs))) (hv : fs[0]? = some v) (d : decode cc pc = .ok (.getfield 59, 3)) (kk : J p l e R s m args below meth c D A X nL Q cells slots ws lv (v :: st) (pc + 3)) : J p l e R s m args below meth c D A X nL Q cells slots ws lv (.ref a :: st) pc :=
  fun H locs ls hP hD hS h => va_getN (C := cn0) (T := cf0) (N := 2) C.1.1 C.1.2.1 C.1.2.2.2.2 ch0 C.1.2.2.2.1 C.2.1 hP q0 he rfl 0 (by decide) (va_Nw.use rfl (C.2.2.1 (.fieldLinkNest "MaskLayers$Reader" 59 "MaskLayers$ByteRow" "row" "[I" "MaskLayers") (nwm (List.mem_of_getElem? (i := 144) (by decide +kernel)) rfl))) (fun _ h9 => h9) hv d (kk H locs ls hP hD hS h)
theorem gf_Reader_9 (C : Cx p s m args meth c D tys cc nL "MaskLayers$Reader") (q0 : Nat) {a : Nat} {fs : List Value} {v : Value} (he : ws[q0]? = some (a, .inr (3, fs))) (hv : fs[0]? = some v) (d : decode cc pc = .ok (.getfield 9, 3)) (kk : J p l e R s m args below meth c D A X nL Q cells slots ws lv (v :: st) (pc + 3)) : J p l e R s m args below meth c D A X nL Q cells slots ws lv (.ref a :: st) pc :=
  fun H locs ls hP hD hS h => va_get (C := cn3) (T := cf3) (N := 5) C.1.1 C.1.2.1 C.1.2.2.2.2 ch3 C.1.2.2.2.1 C.2.1 hP q0 he rfl 0 (by decide) (C.1.2.2.2.2 (.fieldLink "MaskLayers$Reader" 9 "MaskLayers$Reader" "bytes" "LMaskLayers$ByteRow;") (mb (List.mem_of_getElem? (i := 194) (by decide +kernel)) rfl)) (fun _ h9 => h9) hv d (kk H locs ls hP hD hS h)
theorem gf_Writer_15 (C : Cx p s m args meth c D tys cc nL "MaskLayers$Writer") (q0 : Nat) {a : Nat} {fs : List Value} {v : Value} (he : ws[q0]? = some (a, .inr (4, fs))) (hv : fs[1]? = some v) (d : decode cc pc = .ok (.getfield 15, 3)) (kk : J p l e R s m args below meth c D A X nL Q cells slots ws lv (v :: st) (pc + 3)) : J p l e R s m args below meth c D A X nL Q cells slots ws lv (.ref a :: st) pc :=
  fun H locs ls hP hD hS h => va_get (C := cn4) (T := cf4) (N := 2) C.1.1 C.1.2.1 C.1.2.2.2.2 ch4 C.1.2.2.2.1 C.2.1 hP q0 he rfl 1 (by decide) (C.1.2.2.2.2 (.fieldLink "MaskLayers$Writer" 15 "MaskLayers$Writer" "bytes" "LMaskLayers$ByteRow;") (mb (List.mem_of_getElem? (i := 180) (by decide +kernel)) rfl)) (fun _ h9 => h9) hv d (kk H locs ls hP hD hS h)
theorem gf_Writer_45 (C : Cx p s m args meth c D tys cc nL "MaskLayers$Writer") (q0 : Nat) {a : Nat} {fs : List Value} {v : Value} (he : ws[q0]? = some (a, .inr (0, fs))) (hv : fs[1]? = some v) (d : decode cc pc = .ok (.getfield 45, 3)) (kk : J p l e R s m args below meth c D A X nL Q cells slots ws lv (v :: st) (pc + 3)) : J p l e R s m args below meth c D A X nL Q cells slots ws lv (.ref a :: st) pc :=
  fun H locs ls hP hD hS h => va_getN (C := cn0) (T := cf0) (N := 2) C.1.1 C.1.2.1 C.1.2.2.2.2 ch0 C.1.2.2.2.1 C.2.1 hP q0 he rfl 1 (by decide) (va_Nw.use rfl (C.2.2.1 (.fieldLinkNest "MaskLayers$Writer" 45 "MaskLayers$ByteRow" "count" "I" "MaskLayers") (nwm (List.mem_of_getElem? (i := 147) (by decide +kernel)) rfl))) (fun _ h9 => h9) hv d (kk H locs ls hP hD hS h)
theorem gf_Writer_49 (C : Cx p s m args meth c D tys cc nL "MaskLayers$Writer") (q0 : Nat) {a : Nat} {fs : List Value} {v : Value} (he : ws[q0]? = some (a, .inr (1, fs))) (hv : fs[4]? = some v) (d : decode cc pc = .ok (.getfield 49, 3)) (kk : J p l e R s m args below meth c D A X nL Q cells slots ws lv (v :: st) (pc + 3)) : J p l e R s m args below meth c D A X nL Q cells slots ws lv (.ref a :: st) pc :=
  fun H locs ls hP hD hS h => va_getN (C := cn1) (T := cf1) (N := 8) C.1.1 C.1.2.1 C.1.2.2.2.2 ch1 C.1.2.2.2.1 C.2.1 hP q0 he rfl 4 (by decide) (va_Nw.use rfl (C.2.2.1 (.fieldLinkNest "MaskLayers$Writer" 49 "MaskLayers$Layers" "width" "I" "MaskLayers") (nwm (List.mem_of_getElem? (i := 107) (by decide +kernel)) rfl))) (fun _ h9 => h9) hv d (kk H locs ls hP hD hS h)
theorem gf_Writer_52 (C : Cx p s m args meth c D tys cc nL "MaskLayers$Writer") (q0 : Nat) {a : Nat} {fs : List Value} {v : Value} (he : ws[q0]? = some (a, .inr (1, fs))) (hv : fs[5]? = some v) (d : decode cc pc = .ok (.getfield 52, 3)) (kk : J p l e R s m args below meth c D A X nL Q cells slots ws lv (v :: st) (pc + 3)) : J p l e R s m args below meth c D A X nL Q cells slots ws lv (.ref a :: st) pc :=
  fun H locs ls hP hD hS h => va_getN (C := cn1) (T := cf1) (N := 8) C.1.1 C.1.2.1 C.1.2.2.2.2 ch1 C.1.2.2.2.1 C.2.1 hP q0 he rfl 5 (by decide) (va_Nw.use rfl (C.2.2.1 (.fieldLinkNest "MaskLayers$Writer" 52 "MaskLayers$Layers" "height" "I" "MaskLayers") (nwm (List.mem_of_getElem? (i := 111) (by decide +kernel)) rfl))) (fun _ h9 => h9) hv d (kk H locs ls hP hD hS h)
theorem gf_Writer_55 (C : Cx p s m args meth c D tys cc nL "MaskLayers$Writer") (q0 : Nat) {a : Nat} {fs : List Value} {v : Value} (he : ws[q0]? = some (a, .inr (1, fs))) (hv : fs[6]? = some v) (d : decode cc pc = .ok (.getfield 55, 3)) (kk : J p l e R s m args below meth c D A X nL Q cells slots ws lv (v :: st) (pc + 3)) : J p l e R s m args below meth c D A X nL Q cells slots ws lv (.ref a :: st) pc :=
  fun H locs ls hP hD hS h => va_getN (C := cn1) (T := cf1) (N := 8) C.1.1 C.1.2.1 C.1.2.2.2.2 ch1 C.1.2.2.2.1 C.2.1 hP q0 he rfl 6 (by decide) (va_Nw.use rfl (C.2.2.1 (.fieldLinkNest "MaskLayers$Writer" 55 "MaskLayers$Layers" "step" "I" "MaskLayers") (nwm (List.mem_of_getElem? (i := 114) (by decide +kernel)) rfl))) (fun _ h9 => h9) hv d (kk H locs ls hP hD hS h)
theorem gf_Writer_58 (C : Cx p s m args meth c D tys cc nL "MaskLayers$Writer") (q0 : Nat) {a : Nat} {fs : List Value} {v : Value} (he : ws[q0]? = some (a, .inr (1, fs))) (hv : fs[2]? = some v) (d : decode cc pc = .ok (.getfield 58, 3)) (kk : J p l e R s m args below meth c D A X nL Q cells slots ws lv (v :: st) (pc + 3)) : J p l e R s m args below meth c D A X nL Q cells slots ws lv (.ref a :: st) pc :=
  fun H locs ls hP hD hS h => va_getN (C := cn1) (T := cf1) (N := 8) C.1.1 C.1.2.1 C.1.2.2.2.2 ch1 C.1.2.2.2.1 C.2.1 hP q0 he rfl 2 (by decide) (va_Nw.use rfl (C.2.2.1 (.fieldLinkNest "MaskLayers$Writer" 58 "MaskLayers$Layers" "scales" "[I" "MaskLayers") (nwm (List.mem_of_getElem? (i := 102) (by decide +kernel)) rfl))) (fun _ h9 => h9) hv d (kk H locs ls hP hD hS h)
theorem gf_Writer_73 (C : Cx p s m args meth c D tys cc nL "MaskLayers$Writer") (q0 : Nat) {a : Nat} {fs : List Value} {v : Value} (he : ws[q0]? = some (a, .inr (1, fs))) (hv : fs[0]? = some v) (d : decode cc pc = .ok (.getfield 73, 3)) (kk : J p l e R s m args below meth c D A X nL Q cells slots ws lv (v :: st) (pc + 3)) : J p l e R s m args below meth c D A X nL Q cells slots ws lv (.ref a :: st) pc :=
  fun H locs ls hP hD hS h => va_getN (C := cn1) (T := cf1) (N := 8) C.1.1 C.1.2.1 C.1.2.2.2.2 ch1 C.1.2.2.2.1 C.2.1 hP q0 he rfl 0 (by decide) (va_Nw.use rfl (C.2.2.1 (.fieldLinkNest "MaskLayers$Writer" 73 "MaskLayers$Layers" "values" "[[I" "MaskLayers") (nwm (List.mem_of_getElem? (i := 97) (by decide +kernel)) rfl))) (fun _ h9 => h9) hv d (kk H locs ls hP hD hS h)
theorem gf_Writer_9 (C : Cx p s m args meth c D tys cc nL "MaskLayers$Writer") (q0 : Nat) {a : Nat} {fs : List Value} {v : Value} (he : ws[q0]? = some (a, .inr (4, fs))) (hv : fs[0]? = some v) (d : decode cc pc = .ok (.getfield 9, 3)) (kk : J p l e R s m args below meth c D A X nL Q cells slots ws lv (v :: st) (pc + 3)) : J p l e R s m args below meth c D A X nL Q cells slots ws lv (.ref a :: st) pc :=
  fun H locs ls hP hD hS h => va_get (C := cn4) (T := cf4) (N := 2) C.1.1 C.1.2.1 C.1.2.2.2.2 ch4 C.1.2.2.2.1 C.2.1 hP q0 he rfl 0 (by decide) (C.1.2.2.2.2 (.fieldLink "MaskLayers$Writer" 9 "MaskLayers$Writer" "layers" "LMaskLayers$Layers;") (mb (List.mem_of_getElem? (i := 179) (by decide +kernel)) rfl)) (fun _ h9 => h9) hv d (kk H locs ls hP hD hS h)
theorem pf_ByteRow_15 (C : Cx p s m args meth c D tys cc nL "MaskLayers$ByteRow") (q0 : Nat) (ws' : va_W) {a : Nat} {fs : List Value} {v : Int32} (he : ws[q0]? = some (a, .inr (0, fs))) (hl : fs.length = 2) (hw : ws.set q0 (a, .inr (0, fs.set 1 (.int v))) = ws') (d : decode cc pc = .ok (.putfield 15, 3)) (kk : J p l e R s m args below meth c D A (va_D A) nL Q cells slots ws' lv st (pc + 3)) : J p l e R s m args below meth c D A (va_D A) nL Q cells slots ws lv (.int v :: .ref a :: st) pc := by
  subst hw
  exact fun H locs ls hP hD hS h => va_put (ty := .int) (C := cn0) (T := cf0) (N := 2) C.1.1 C.1.2.1 C.1.2.2.2.2 ch0 ct0 cg0 ce0 C.1.2.2.2.1 C.2.1 hP hD hS q0 he rfl 1 (by decide) (C.1.2.2.2.2 (.fieldLink "MaskLayers$ByteRow" 15 "MaskLayers$ByteRow" "count" "I") (mb (List.mem_of_getElem? (i := 145) (by decide +kernel)) rfl)) (fun _ h9 => h9) rfl rfl rfl rfl (by rw [hl]; decide) d (fun H1 locs1 hP hD hS => kk H1 locs1 ls hP hD hS h)
theorem pf_ByteRow_9 (C : Cx p s m args meth c D tys cc nL "MaskLayers$ByteRow") (q0 : Nat) (ws' : va_W) {a : Nat} {fs : List Value} {v : Nat} (he : ws[q0]? = some (a, .inr (0, fs))) (hl : fs.length = 2) (hw : ws.set q0 (a, .inr (0, fs.set 0 (.ref v))) = ws') (d : decode cc pc = .ok (.putfield 9, 3)) (kk : J p l e R s m args below meth c D A (va_D A) nL Q cells slots ws' lv st (pc + 3)) : J p l e R s m args below meth c D A (va_D A) nL Q cells slots ws lv (.ref v :: .ref a :: st) pc := by
  subst hw
  exact fun H locs ls hP hD hS h => va_put (ty := (.array .int)) (C := cn0) (T := cf0) (N := 2) C.1.1 C.1.2.1 C.1.2.2.2.2 ch0 ct0 cg0 ce0 C.1.2.2.2.1 C.2.1 hP hD hS q0 he rfl 0 (by decide) (C.1.2.2.2.2 (.fieldLink "MaskLayers$ByteRow" 9 "MaskLayers$ByteRow" "row" "[I") (mb (List.mem_of_getElem? (i := 143) (by decide +kernel)) rfl)) (fun _ h9 => h9) rfl rfl rfl rfl (by rw [hl]; decide) d (fun H1 locs1 hP hD hS => kk H1 locs1 ls hP hD hS h)
theorem pf_Layers_26 (C : Cx p s m args meth c D tys cc nL "MaskLayers$Layers") (q0 : Nat) (ws' : va_W) {a : Nat} {fs : List Value} {v : Int32} (he : ws[q0]? = some (a, .inr (1, fs))) (hl : fs.length = 8) (hw : ws.set q0 (a, .inr (1, fs.set 6 (.int v))) = ws') (d : decode cc pc = .ok (.putfield 26, 3)) (kk : J p l e R s m args below meth c D A (va_D A) nL Q cells slots ws' lv st (pc + 3)) : J p l e R s m args below meth c D A (va_D A) nL Q cells slots ws lv (.int v :: .ref a :: st) pc := by
  subst hw
  exact fun H locs ls hP hD hS h => va_put (ty := .int) (C := cn1) (T := cf1) (N := 8) C.1.1 C.1.2.1 C.1.2.2.2.2 ch1 ct1 cg1 ce1 C.1.2.2.2.1 C.2.1 hP hD hS q0 he rfl 6 (by decide) (C.1.2.2.2.2 (.fieldLink "MaskLayers$Layers" 26 "MaskLayers$Layers" "step" "I") (mb (List.mem_of_getElem? (i := 113) (by decide +kernel)) rfl)) (fun _ h9 => h9) rfl rfl rfl rfl (by rw [hl]; decide) d (fun H1 locs1 hP hD hS => kk H1 locs1 ls hP hD hS h)
theorem pf_Layers_36 (C : Cx p s m args meth c D tys cc nL "MaskLayers$Layers") (q0 : Nat) (ws' : va_W) {a : Nat} {fs : List Value} {v : Int32} (he : ws[q0]? = some (a, .inr (1, fs))) (hl : fs.length = 8) (hw : ws.set q0 (a, .inr (1, fs.set 7 (.int v))) = ws') (d : decode cc pc = .ok (.putfield 36, 3)) (kk : J p l e R s m args below meth c D A (va_D A) nL Q cells slots ws' lv st (pc + 3)) : J p l e R s m args below meth c D A (va_D A) nL Q cells slots ws lv (.int v :: .ref a :: st) pc := by
  subst hw
  exact fun H locs ls hP hD hS h => va_put (ty := .int) (C := cn1) (T := cf1) (N := 8) C.1.1 C.1.2.1 C.1.2.2.2.2 ch1 ct1 cg1 ce1 C.1.2.2.2.1 C.2.1 hP hD hS q0 he rfl 7 (by decide) (C.1.2.2.2.2 (.fieldLink "MaskLayers$Layers" 36 "MaskLayers$Layers" "count" "I") (mb (List.mem_of_getElem? (i := 115) (by decide +kernel)) rfl)) (fun _ h9 => h9) rfl rfl rfl rfl (by rw [hl]; decide) d (fun H1 locs1 hP hD hS => kk H1 locs1 ls hP hD hS h)
theorem pf_Layers_39 (C : Cx p s m args meth c D tys cc nL "MaskLayers$Layers") (q0 : Nat) (ws' : va_W) {a : Nat} {fs : List Value} {v : Int32} (he : ws[q0]? = some (a, .inr (1, fs))) (hl : fs.length = 8) (hw : ws.set q0 (a, .inr (1, fs.set 4 (.int v))) = ws') (d : decode cc pc = .ok (.putfield 39, 3)) (kk : J p l e R s m args below meth c D A (va_D A) nL Q cells slots ws' lv st (pc + 3)) : J p l e R s m args below meth c D A (va_D A) nL Q cells slots ws lv (.int v :: .ref a :: st) pc := by
  subst hw
  exact fun H locs ls hP hD hS h => va_put (ty := .int) (C := cn1) (T := cf1) (N := 8) C.1.1 C.1.2.1 C.1.2.2.2.2 ch1 ct1 cg1 ce1 C.1.2.2.2.1 C.2.1 hP hD hS q0 he rfl 4 (by decide) (C.1.2.2.2.2 (.fieldLink "MaskLayers$Layers" 39 "MaskLayers$Layers" "width" "I") (mb (List.mem_of_getElem? (i := 106) (by decide +kernel)) rfl)) (fun _ h9 => h9) rfl rfl rfl rfl (by rw [hl]; decide) d (fun H1 locs1 hP hD hS => kk H1 locs1 ls hP hD hS h)
theorem pf_Layers_42 (C : Cx p s m args meth c D tys cc nL "MaskLayers$Layers") (q0 : Nat) (ws' : va_W) {a : Nat} {fs : List Value} {v : Int32} (he : ws[q0]? = some (a, .inr (1, fs))) (hl : fs.length = 8) (hw : ws.set q0 (a, .inr (1, fs.set 5 (.int v))) = ws') (d : decode cc pc = .ok (.putfield 42, 3)) (kk : J p l e R s m args below meth c D A (va_D A) nL Q cells slots ws' lv st (pc + 3)) : J p l e R s m args below meth c D A (va_D A) nL Q cells slots ws lv (.int v :: .ref a :: st) pc := by
  subst hw
  exact fun H locs ls hP hD hS h => va_put (ty := .int) (C := cn1) (T := cf1) (N := 8) C.1.1 C.1.2.1 C.1.2.2.2.2 ch1 ct1 cg1 ce1 C.1.2.2.2.1 C.2.1 hP hD hS q0 he rfl 5 (by decide) (C.1.2.2.2.2 (.fieldLink "MaskLayers$Layers" 42 "MaskLayers$Layers" "height" "I") (mb (List.mem_of_getElem? (i := 110) (by decide +kernel)) rfl)) (fun _ h9 => h9) rfl rfl rfl rfl (by rw [hl]; decide) d (fun H1 locs1 hP hD hS => kk H1 locs1 ls hP hD hS h)
theorem pf_Reader_26 (C : Cx p s m args meth c D tys cc nL "MaskLayers$Reader") (q0 : Nat) (ws' : va_W) {a : Nat} {fs : List Value} {v : Int32} (he : ws[q0]? = some (a, .inr (3, fs))) (hl : fs.length = 5) (hw : ws.set q0 (a, .inr (3, fs.set 3 (.int v))) = ws') (d : decode cc pc = .ok (.putfield 26, 3)) (kk : J p l e R s m args below meth c D A (va_D A) nL Q cells slots ws' lv st (pc + 3)) : J p l e R s m args below meth c D A (va_D A) nL Q cells slots ws lv (.int v :: .ref a :: st) pc := by
  subst hw
  exact fun H locs ls hP hD hS h => va_put (ty := .int) (C := cn3) (T := cf3) (N := 5) C.1.1 C.1.2.1 C.1.2.2.2.2 ch3 ct3 cg3 ce3 C.1.2.2.2.1 C.2.1 hP hD hS q0 he rfl 3 (by decide) (C.1.2.2.2.2 (.fieldLink "MaskLayers$Reader" 26 "MaskLayers$Reader" "place" "I") (mb (List.mem_of_getElem? (i := 197) (by decide +kernel)) rfl)) (fun _ h9 => h9) rfl rfl rfl rfl (by rw [hl]; decide) d (fun H1 locs1 hP hD hS => kk H1 locs1 ls hP hD hS h)
theorem pf_Reader_56 (C : Cx p s m args meth c D tys cc nL "MaskLayers$Reader") (q0 : Nat) (ws' : va_W) {a : Nat} {fs : List Value} {v : Int32} (he : ws[q0]? = some (a, .inr (3, fs))) (hl : fs.length = 5) (hw : ws.set q0 (a, .inr (3, fs.set 4 (.int v))) = ws') (d : decode cc pc = .ok (.putfield 56, 3)) (kk : J p l e R s m args below meth c D A (va_D A) nL Q cells slots ws' lv st (pc + 3)) : J p l e R s m args below meth c D A (va_D A) nL Q cells slots ws lv (.int v :: .ref a :: st) pc := by
  subst hw
  exact fun H locs ls hP hD hS h => va_put (ty := .int) (C := cn3) (T := cf3) (N := 5) C.1.1 C.1.2.1 C.1.2.2.2.2 ch3 ct3 cg3 ce3 C.1.2.2.2.1 C.2.1 hP hD hS q0 he rfl 4 (by decide) (C.1.2.2.2.2 (.fieldLink "MaskLayers$Reader" 56 "MaskLayers$Reader" "refusedAt" "I") (mb (List.mem_of_getElem? (i := 198) (by decide +kernel)) rfl)) (fun _ h9 => h9) rfl rfl rfl rfl (by rw [hl]; decide) d (fun H1 locs1 hP hD hS => kk H1 locs1 ls hP hD hS h)
theorem gs_Reader_19 (C : Cx p s m args meth c D tys cc nL "MaskLayers$Reader") {v : Value} (hZ : va_Z "MaskLayers" "HEAD_LEAST" "[I" v A s s.heap) (d : decode cc pc = .ok (.getstatic 19, 3)) (kk : J p l e R s m args below meth c D A X nL Q cells slots ws lv (v :: st) (pc + 3)) : J p l e R s m args below meth c D A X nL Q cells slots ws lv st pc :=
  fun H locs ls hP hD hS h => va_getsN C.1.1 C.1.2.1 hZ hS C.1.2.2.2.1 (va_Nw.use rfl (C.2.2.1 (.fieldLinkNest "MaskLayers$Reader" 19 "MaskLayers" "HEAD_LEAST" "[I" "MaskLayers") (nwm (List.mem_of_getElem? (i := 192) (by decide +kernel)) rfl))) (fun _ h9 => h9) d (kk H locs ls hP hD hS h)
theorem gs_Reader_62 (C : Cx p s m args meth c D tys cc nL "MaskLayers$Reader") {v : Value} (hZ : va_Z "MaskLayers" "HEAD_MOST" "[I" v A s s.heap) (d : decode cc pc = .ok (.getstatic 62, 3)) (kk : J p l e R s m args below meth c D A X nL Q cells slots ws lv (v :: st) (pc + 3)) : J p l e R s m args below meth c D A X nL Q cells slots ws lv st pc :=
  fun H locs ls hP hD hS h => va_getsN C.1.1 C.1.2.1 hZ hS C.1.2.2.2.1 (va_Nw.use rfl (C.2.2.1 (.fieldLinkNest "MaskLayers$Reader" 62 "MaskLayers" "HEAD_MOST" "[I" "MaskLayers") (nwm (List.mem_of_getElem? (i := 266) (by decide +kernel)) rfl))) (fun _ h9 => h9) d (kk H locs ls hP hD hS h)
theorem m_ML_isByte : Cond.code y_ML_isByte b_ML_isByte 1 (some .boolean) ∈ BIG := mb (List.mem_of_getElem? (i := 738) (by decide +kernel)) rfl
theorem m_ML_parts : Cond.code y_ML_parts b_ML_parts 2 (some .int) ∈ BIG := mb (List.mem_of_getElem? (i := 278) (by decide +kernel)) rfl
theorem m_ML_red : Cond.code y_ML_red b_ML_red 1 (some .int) ∈ BIG := mb (List.mem_of_getElem? (i := 535) (by decide +kernel)) rfl
theorem m_ML_green : Cond.code y_ML_green b_ML_green 1 (some .int) ∈ BIG := mb (List.mem_of_getElem? (i := 538) (by decide +kernel)) rfl
theorem m_ML_blue : Cond.code y_ML_blue b_ML_blue 1 (some .int) ∈ BIG := mb (List.mem_of_getElem? (i := 541) (by decide +kernel)) rfl
theorem m_ML_colourOf : Cond.code y_ML_colourOf b_ML_colourOf 3 (some .int) ∈ BIG := mb (List.mem_of_getElem? (i := 336) (by decide +kernel)) rfl
theorem m_ML_sum : Cond.code y_ML_sum b_ML_sum 2 (some .int) ∈ BIG := mb (List.mem_of_getElem? (i := 793) (by decide +kernel)) rfl
theorem m_ML_difference : Cond.code y_ML_difference b_ML_difference 2 (some .int) ∈ BIG := mb (List.mem_of_getElem? (i := 575) (by decide +kernel)) rfl
theorem m_ML_middle : Cond.code y_ML_middle b_ML_middle 2 (some .int) ∈ BIG := mb (List.mem_of_getElem? (i := 555) (by decide +kernel)) rfl
theorem m_ML_mean : Cond.code y_ML_mean b_ML_mean 2 (some .int) ∈ BIG := mb (List.mem_of_getElem? (i := 544) (by decide +kernel)) rfl
theorem m_ML_plainBytes : Cond.code y_ML_plainBytes b_ML_plainBytes 2 (some .int) ∈ BIG := mb (List.mem_of_getElem? (i := 323) (by decide +kernel)) rfl
theorem m_Layers_has : Cond.code y_Layers_has b_Layers_has 3 (some .boolean) ∈ BIG := mb (List.mem_of_getElem? (i := 294) (by decide +kernel)) rfl
theorem m_Layers_hasSample : Cond.code y_Layers_hasSample b_Layers_hasSample 3 (some .boolean) ∈ BIG := mb (List.mem_of_getElem? (i := 603) (by decide +kernel)) rfl
theorem m_Layers_stripes : Cond.code y_Layers_stripes b_Layers_stripes 1 (some .int) ∈ BIG := mb (List.mem_of_getElem? (i := 282) (by decide +kernel)) rfl
theorem m_Layers_stripeOf : Cond.code y_Layers_stripeOf b_Layers_stripeOf 2 (some .int) ∈ BIG := mb (List.mem_of_getElem? (i := 572) (by decide +kernel)) rfl
theorem m_Layers_topOf : Cond.code y_Layers_topOf b_Layers_topOf 2 (some .int) ∈ BIG := mb (List.mem_of_getElem? (i := 527) (by decide +kernel)) rfl
theorem m_Layers_bottomOf : Cond.code y_Layers_bottomOf b_Layers_bottomOf 2 (some .int) ∈ BIG := mb (List.mem_of_getElem? (i := 531) (by decide +kernel)) rfl
theorem m_Layers_rowsOf : Cond.code y_Layers_rowsOf b_Layers_rowsOf 3 (some .int) ∈ BIG := mb (List.mem_of_getElem? (i := 319) (by decide +kernel)) rfl
theorem m_Layers_startOf : Cond.code y_Layers_startOf b_Layers_startOf 2 (some .int) ∈ BIG := mb (List.mem_of_getElem? (i := 310) (by decide +kernel)) rfl
theorem m_Layers_endOf : Cond.code y_Layers_endOf b_Layers_endOf 3 (some .int) ∈ BIG := mb (List.mem_of_getElem? (i := 314) (by decide +kernel)) rfl
theorem m_Layers_placeOf : Cond.code y_Layers_placeOf b_Layers_placeOf 6 (some .int) ∈ BIG := mb (List.mem_of_getElem? (i := 568) (by decide +kernel)) rfl
theorem m_Layers_valueAt : Cond.code y_Layers_valueAt b_Layers_valueAt 4 (some .int) ∈ BIG := mb (List.mem_of_getElem? (i := 608) (by decide +kernel)) rfl
theorem m_Layers_joinedAt : Cond.code y_Layers_joinedAt b_Layers_joinedAt 4 (some .int) ∈ BIG := mb (List.mem_of_getElem? (i := 635) (by decide +kernel)) rfl
theorem m_Layers_exactAt : Cond.code y_Layers_exactAt b_Layers_exactAt 4 (some .int) ∈ BIG := mb (List.mem_of_getElem? (i := 789) (by decide +kernel)) rfl
theorem m_Arrays_fill : Cond.code y_Arrays_fill b_Arrays_fill 4 none ∈ BIG := mb (List.mem_of_getElem? (i := 261) (by decide +kernel)) rfl
theorem m_Layers_forget : Cond.code y_Layers_forget b_Layers_forget 1 none ∈ BIG := mb (List.mem_of_getElem? (i := 258) (by decide +kernel)) rfl
theorem m_Layers_shape : Cond.code y_Layers_shape b_Layers_shape 7 none ∈ BIG := mb (List.mem_of_getElem? (i := 275) (by decide +kernel)) rfl
theorem m_Layers_add : Cond.code y_Layers_add b_Layers_add 3 none ∈ BIG := mb (List.mem_of_getElem? (i := 348) (by decide +kernel)) rfl
theorem m_ByteRow_empty : Cond.code y_ByteRow_empty b_ByteRow_empty 1 none ∈ BIG := mb (List.mem_of_getElem? (i := 366) (by decide +kernel)) rfl
theorem m_ByteRow_room : Cond.code y_ByteRow_room b_ByteRow_room 1 (some .int) ∈ BIG := mb (List.mem_of_getElem? (i := 660) (by decide +kernel)) rfl
theorem m_ByteRow_holds : Cond.code y_ByteRow_holds b_ByteRow_holds 2 (some .boolean) ∈ BIG := mb (List.mem_of_getElem? (i := 721) (by decide +kernel)) rfl
theorem m_ByteRow_valueAt : Cond.code y_ByteRow_valueAt b_ByteRow_valueAt 2 (some .int) ∈ BIG := mb (List.mem_of_getElem? (i := 726) (by decide +kernel)) rfl
theorem m_ByteRow_replace : Cond.code y_ByteRow_replace b_ByteRow_replace 4 (some .int) ∈ BIG := mb (List.mem_of_getElem? (i := 776) (by decide +kernel)) rfl
theorem m_Maker_fillBetween : Cond.code y_Maker_fillBetween b_Maker_fillBetween 3 (some .int) ∈ BIG := mb (List.mem_of_getElem? (i := 552) (by decide +kernel)) rfl
theorem m_Maker_wasFilled : Cond.code y_Maker_wasFilled b_Maker_wasFilled 4 (some .boolean) ∈ BIG := mb (List.mem_of_getElem? (i := 622) (by decide +kernel)) rfl
theorem m_Maker_meanOfBlock : Cond.code y_Maker_meanOfBlock b_Maker_meanOfBlock 18 (some .int) ∈ BIG := mb (List.mem_of_getElem? (i := 523) (by decide +kernel)) rfl
theorem m_Maker_takeMask : Cond.code y_Maker_takeMask b_Maker_takeMask 5 (some .int) ∈ BIG := mb (List.mem_of_getElem? (i := 512) (by decide +kernel)) rfl
theorem m_Maker_makeBlocks : Cond.code y_Maker_makeBlocks b_Maker_makeBlocks 10 (some .int) ∈ BIG := mb (List.mem_of_getElem? (i := 518) (by decide +kernel)) rfl
theorem m_Maker_fillBlocks : Cond.code y_Maker_fillBlocks b_Maker_fillBlocks 12 none ∈ BIG := mb (List.mem_of_getElem? (i := 549) (by decide +kernel)) rfl
theorem m_Maker_makeRest : Cond.code y_Maker_makeRest b_Maker_makeRest 10 (some .boolean) ∈ BIG := mb (List.mem_of_getElem? (i := 564) (by decide +kernel)) rfl
theorem m_Maker_makeStripe : Cond.code y_Maker_makeStripe b_Maker_makeStripe 4 none ∈ BIG := mb (List.mem_of_getElem? (i := 508) (by decide +kernel)) rfl
theorem m_Maker_makeAll : Cond.code y_Maker_makeAll b_Maker_makeAll 3 (some .int) ∈ BIG := mb (List.mem_of_getElem? (i := 501) (by decide +kernel)) rfl
theorem m_Writer_runEnds : Cond.code y_Writer_runEnds b_Writer_runEnds 4 (some .boolean) ∈ BIG := mb (List.mem_of_getElem? (i := 690) (by decide +kernel)) rfl
theorem m_Writer_countRuns : Cond.code y_Writer_countRuns b_Writer_countRuns 6 (some .int) ∈ BIG := mb (List.mem_of_getElem? (i := 687) (by decide +kernel)) rfl
theorem m_Reader_mayEnd : Cond.code y_Reader_mayEnd b_Reader_mayEnd 2 (some .boolean) ∈ BIG := mb (List.mem_of_getElem? (i := 290) (by decide +kernel)) rfl
theorem m_Reader_mayFollow : Cond.code y_Reader_mayFollow b_Reader_mayFollow 3 (some .boolean) ∈ BIG := mb (List.mem_of_getElem? (i := 302) (by decide +kernel)) rfl
theorem m_Reader_refuse : Cond.code y_Reader_refuse b_Reader_refuse 2 (some .boolean) ∈ BIG := mb (List.mem_of_getElem? (i := 298) (by decide +kernel)) rfl
theorem m_Reader_take : Cond.code y_Reader_take b_Reader_take 4 (some .int) ∈ BIG := mb (List.mem_of_getElem? (i := 271) (by decide +kernel)) rfl
theorem m_Reader_takeValue : Cond.code y_Reader_takeValue b_Reader_takeValue 5 (some .int) ∈ BIG := mb (List.mem_of_getElem? (i := 333) (by decide +kernel)) rfl
theorem m_Reader_readColours : Cond.code y_Reader_readColours b_Reader_readColours 6 (some .boolean) ∈ BIG := mb (List.mem_of_getElem? (i := 344) (by decide +kernel)) rfl
theorem m_Reader_readBits : Cond.code y_Reader_readBits b_Reader_readBits 7 (some .boolean) ∈ BIG := mb (List.mem_of_getElem? (i := 340) (by decide +kernel)) rfl
theorem m_Reader_readRuns : Cond.code y_Reader_readRuns b_Reader_readRuns 7 (some .boolean) ∈ BIG := mb (List.mem_of_getElem? (i := 328) (by decide +kernel)) rfl
theorem m_Reader_readLayer : Cond.code y_Reader_readLayer b_Reader_readLayer 11 (some .boolean) ∈ BIG := mb (List.mem_of_getElem? (i := 306) (by decide +kernel)) rfl
theorem m_Reader_readStripe : Cond.code y_Reader_readStripe b_Reader_readStripe 7 (some .boolean) ∈ BIG := mb (List.mem_of_getElem? (i := 286) (by decide +kernel)) rfl
theorem m_Reader_readHead : Cond.code y_Reader_readHead b_Reader_readHead 2 (some .boolean) ∈ BIG := mb (List.mem_of_getElem? (i := 265) (by decide +kernel)) rfl
theorem m_Reader_readAll : Cond.code y_Reader_readAll b_Reader_readAll 3 (some .int) ∈ BIG := mb (List.mem_of_getElem? (i := 254) (by decide +kernel)) rfl
theorem m_ByteRow_append : Cond.code y_ByteRow_append b_ByteRow_append 2 none ∈ BIG := mb (List.mem_of_getElem? (i := 656) (by decide +kernel)) rfl
theorem m_Writer_writeValue : Cond.code y_Writer_writeValue b_Writer_writeValue 3 none ∈ BIG := mb (List.mem_of_getElem? (i := 699) (by decide +kernel)) rfl
theorem m_Writer_writeValues : Cond.code y_Writer_writeValues b_Writer_writeValues 5 none ∈ BIG := mb (List.mem_of_getElem? (i := 710) (by decide +kernel)) rfl
theorem m_Writer_writeRuns : Cond.code y_Writer_writeRuns b_Writer_writeRuns 7 none ∈ BIG := mb (List.mem_of_getElem? (i := 695) (by decide +kernel)) rfl
theorem m_Writer_writeBits : Cond.code y_Writer_writeBits b_Writer_writeBits 7 none ∈ BIG := mb (List.mem_of_getElem? (i := 706) (by decide +kernel)) rfl
theorem m_Writer_writeHead : Cond.code y_Writer_writeHead b_Writer_writeHead 1 none ∈ BIG := mb (List.mem_of_getElem? (i := 652) (by decide +kernel)) rfl
theorem m_Writer_writeLayer : Cond.code y_Writer_writeLayer b_Writer_writeLayer 7 none ∈ BIG := mb (List.mem_of_getElem? (i := 681) (by decide +kernel)) rfl
theorem m_Writer_writeAll : Cond.code y_Writer_writeAll b_Writer_writeAll 3 (some .int) ∈ BIG := mb (List.mem_of_getElem? (i := 647) (by decide +kernel)) rfl
theorem m_Arrays_copyOf : Cond.code y_Arrays_copyOf b_Arrays_copyOf 3 (some (.array .int)) ∈ BIG := mb (List.mem_of_getElem? (i := 664) (by decide +kernel)) rfl
end WO
end
section
def rm_ML_isByte : Room := { frames := 0, cells := 0, slots := 0, locals := 0 }
def rm_ML_parts : Room := { frames := 0, cells := 0, slots := 0, locals := 0 }
def rm_ML_red : Room := { frames := 0, cells := 0, slots := 0, locals := 0 }
def rm_ML_green : Room := { frames := 0, cells := 0, slots := 0, locals := 0 }
def rm_ML_blue : Room := { frames := 0, cells := 0, slots := 0, locals := 0 }
def rm_ML_colourOf : Room := { frames := 0, cells := 0, slots := 0, locals := 0 }
def rm_ML_sum : Room := { frames := 1, cells := 0, slots := 0, locals := 22 }
def rm_ML_difference : Room := { frames := 1, cells := 0, slots := 0, locals := 22 }
def rm_ML_middle : Room := { frames := 1, cells := 0, slots := 0, locals := 22 }
def rm_ML_mean : Room := { frames := 0, cells := 0, slots := 0, locals := 0 }
def rm_ML_plainBytes : Room := { frames := 1, cells := 0, slots := 0, locals := 21 }
def rm_Layers_has : Room := { frames := 0, cells := 0, slots := 0, locals := 0 }
def rm_Layers_hasSample : Room := { frames := 0, cells := 0, slots := 0, locals := 0 }
def rm_Layers_stripes : Room := { frames := 1, cells := 0, slots := 0, locals := 21 }
def rm_Layers_stripeOf : Room := { frames := 0, cells := 0, slots := 0, locals := 0 }
def rm_Layers_topOf : Room := { frames := 0, cells := 0, slots := 0, locals := 0 }
def rm_Layers_bottomOf : Room := { frames := 1, cells := 0, slots := 0, locals := 21 }
def rm_Layers_rowsOf : Room := { frames := 1, cells := 0, slots := 0, locals := 21 }
def rm_Layers_startOf : Room := { frames := 0, cells := 0, slots := 0, locals := 0 }
def rm_Layers_endOf : Room := { frames := 2, cells := 0, slots := 0, locals := 43 }
def rm_Layers_placeOf : Room := { frames := 1, cells := 0, slots := 0, locals := 21 }
def rm_Layers_valueAt : Room := { frames := 2, cells := 0, slots := 0, locals := 46 }
def rm_Layers_joinedAt : Room := { frames := 3, cells := 0, slots := 0, locals := 69 }
def rm_Layers_exactAt : Room := { frames := 4, cells := 0, slots := 0, locals := 92 }
def rm_Arrays_fill : Room := { frames := 0, cells := 0, slots := 0, locals := 0 }
def rm_Layers_forget : Room := { frames := 1, cells := 0, slots := 0, locals := 23 }
def rm_Layers_shape : Room := { frames := 1, cells := 0, slots := 0, locals := 21 }
def rm_Layers_add : Room := { frames := 0, cells := 0, slots := 0, locals := 0 }
def rm_ByteRow_empty : Room := { frames := 0, cells := 0, slots := 0, locals := 0 }
def rm_ByteRow_room : Room := { frames := 0, cells := 0, slots := 0, locals := 0 }
def rm_ByteRow_holds : Room := { frames := 0, cells := 0, slots := 0, locals := 0 }
def rm_ByteRow_valueAt : Room := { frames := 1, cells := 0, slots := 0, locals := 21 }
def rm_ByteRow_replace : Room := { frames := 2, cells := 0, slots := 0, locals := 42 }
def rm_Maker_fillBetween : Room := { frames := 2, cells := 0, slots := 0, locals := 43 }
def rm_Maker_wasFilled : Room := { frames := 2, cells := 0, slots := 0, locals := 46 }
def rm_Maker_meanOfBlock : Room := { frames := 2, cells := 0, slots := 0, locals := 42 }
def rm_Maker_takeMask : Room := { frames := 3, cells := 0, slots := 0, locals := 65 }
def rm_Maker_makeBlocks : Room := { frames := 3, cells := 0, slots := 0, locals := 79 }
def rm_Maker_fillBlocks : Room := { frames := 3, cells := 0, slots := 0, locals := 65 }
def rm_Maker_makeRest : Room := { frames := 2, cells := 0, slots := 0, locals := 46 }
def rm_Maker_makeStripe : Room := { frames := 4, cells := 0, slots := 0, locals := 108 }
def rm_Maker_makeAll : Room := { frames := 5, cells := 0, slots := 0, locals := 131 }
def rm_Writer_runEnds : Room := { frames := 0, cells := 0, slots := 0, locals := 0 }
def rm_Writer_countRuns : Room := { frames := 1, cells := 0, slots := 0, locals := 23 }
def rm_Reader_mayEnd : Room := { frames := 1, cells := 0, slots := 0, locals := 22 }
def rm_Reader_mayFollow : Room := { frames := 1, cells := 0, slots := 0, locals := 22 }
def rm_Reader_refuse : Room := { frames := 0, cells := 0, slots := 0, locals := 0 }
def rm_Reader_take : Room := { frames := 0, cells := 0, slots := 0, locals := 0 }
def rm_Reader_takeValue : Room := { frames := 1, cells := 0, slots := 0, locals := 23 }
def rm_Reader_readColours : Room := { frames := 2, cells := 0, slots := 0, locals := 47 }
def rm_Reader_readBits : Room := { frames := 1, cells := 0, slots := 0, locals := 23 }
def rm_Reader_readRuns : Room := { frames := 2, cells := 0, slots := 0, locals := 47 }
def rm_Reader_readLayer : Room := { frames := 3, cells := 0, slots := 0, locals := 73 }
def rm_Reader_readStripe : Room := { frames := 4, cells := 0, slots := 0, locals := 103 }
def rm_Reader_readHead : Room := { frames := 2, cells := 0, slots := 0, locals := 47 }
def rm_Reader_readAll : Room := { frames := 5, cells := 0, slots := 0, locals := 129 }
def rm_ByteRow_append (cT sT : Nat) : Room := { frames := 2, cells := cT, slots := sT, locals := 86 }
def rm_Writer_writeValue (cT sT : Nat) : Room := { frames := 3, cells := cT, slots := sT, locals := 107 }
def rm_Writer_writeValues (cT sT : Nat) : Room := { frames := 4, cells := cT, slots := sT, locals := 129 }
def rm_Writer_writeRuns (cT sT : Nat) : Room := { frames := 4, cells := cT, slots := sT, locals := 129 }
def rm_Writer_writeBits (cT sT : Nat) : Room := { frames := 3, cells := cT, slots := sT, locals := 107 }
def rm_Writer_writeHead (cT sT : Nat) : Room := { frames := 3, cells := cT, slots := sT, locals := 107 }
def rm_Writer_writeLayer (cT sT : Nat) : Room := { frames := 5, cells := cT, slots := sT, locals := 155 }
def rm_Writer_writeAll (cT sT : Nat) : Room := { frames := 6, cells := cT, slots := sT, locals := 181 }
def rm_Arrays_copyOf (cT sT : Nat) : Room := { frames := 1, cells := cT, slots := sT, locals := 64 }
section WC
variable {p : Program} {l : Launch} {e : Env} {R : Room} {s : State} {m : MethodId} {args : Array Value} {below : List Frame} {meth : Method} {c : Code} {D : va_G} {A : Nat → Prop} {X : va_W → Prop} {nL : Nat} {Q : State → Prop} {cells slots : Nat} {ws : va_W} {lv : List (Nat × Value)} {st : List Value} {pc : Nat}
variable {tys : List (ClassId × FieldType)} {cc : ByteArray}
theorem cw_ML_109 (C : Cx p s m args meth c D tys cc nL "MaskLayers") (hR : rm_ML_parts.frames + 1 ≤ R.frames ∧ 8 + (2 + 11) + rm_ML_parts.locals ≤ R.locals) : CallB R s args "MaskLayers" 109 y_ML_parts b_ML_parts 2 (some .int) (Cond.code y_ML_parts b_ML_parts 2 (some .int) :: BIG) rm_ML_parts 0 0 2 ∧ (Cond.static y_ML_parts).before args s = true :=
  ⟨cB C (mb (List.mem_of_getElem? (i := 324) (by decide +kernel)) rfl) (mb (List.mem_of_getElem? (i := 57) (by decide +kernel)) rfl) m_ML_parts rfl rfl ⟨by decide, by decide, by decide +kernel⟩ hR, C.1.2.2.2.2 _ (mb (List.mem_of_getElem? (i := 277) (by decide +kernel)) rfl)⟩
theorem cw_ML_206 (C : Cx p s m args meth c D tys cc nL "MaskLayers") (hR : rm_ML_red.frames + 1 ≤ R.frames ∧ 8 + (1 + 11) + rm_ML_red.locals ≤ R.locals) : CallB R s args "MaskLayers" 206 y_ML_red b_ML_red 1 (some .int) (Cond.code y_ML_red b_ML_red 1 (some .int) :: BIG) rm_ML_red 0 0 1 ∧ (Cond.static y_ML_red).before args s = true :=
  ⟨cB C (mb (List.mem_of_getElem? (i := 556) (by decide +kernel)) rfl) (mb (List.mem_of_getElem? (i := 57) (by decide +kernel)) rfl) m_ML_red rfl rfl ⟨by decide, by decide, by decide +kernel⟩ hR, C.1.2.2.2.2 _ (mb (List.mem_of_getElem? (i := 534) (by decide +kernel)) rfl)⟩
theorem cw_ML_209 (C : Cx p s m args meth c D tys cc nL "MaskLayers") (hR : rm_ML_green.frames + 1 ≤ R.frames ∧ 8 + (1 + 11) + rm_ML_green.locals ≤ R.locals) : CallB R s args "MaskLayers" 209 y_ML_green b_ML_green 1 (some .int) (Cond.code y_ML_green b_ML_green 1 (some .int) :: BIG) rm_ML_green 0 0 1 ∧ (Cond.static y_ML_green).before args s = true :=
  ⟨cB C (mb (List.mem_of_getElem? (i := 557) (by decide +kernel)) rfl) (mb (List.mem_of_getElem? (i := 57) (by decide +kernel)) rfl) m_ML_green rfl rfl ⟨by decide, by decide, by decide +kernel⟩ hR, C.1.2.2.2.2 _ (mb (List.mem_of_getElem? (i := 537) (by decide +kernel)) rfl)⟩
theorem cw_ML_212 (C : Cx p s m args meth c D tys cc nL "MaskLayers") (hR : rm_ML_blue.frames + 1 ≤ R.frames ∧ 8 + (1 + 11) + rm_ML_blue.locals ≤ R.locals) : CallB R s args "MaskLayers" 212 y_ML_blue b_ML_blue 1 (some .int) (Cond.code y_ML_blue b_ML_blue 1 (some .int) :: BIG) rm_ML_blue 0 0 1 ∧ (Cond.static y_ML_blue).before args s = true :=
  ⟨cB C (mb (List.mem_of_getElem? (i := 558) (by decide +kernel)) rfl) (mb (List.mem_of_getElem? (i := 57) (by decide +kernel)) rfl) m_ML_blue rfl rfl ⟨by decide, by decide, by decide +kernel⟩ hR, C.1.2.2.2.2 _ (mb (List.mem_of_getElem? (i := 540) (by decide +kernel)) rfl)⟩
theorem cw_ML_215 (C : Cx p s m args meth c D tys cc nL "MaskLayers") (hR : rm_ML_colourOf.frames + 1 ≤ R.frames ∧ 8 + (3 + 11) + rm_ML_colourOf.locals ≤ R.locals) : CallB R s args "MaskLayers" 215 y_ML_colourOf b_ML_colourOf 3 (some .int) (Cond.code y_ML_colourOf b_ML_colourOf 3 (some .int) :: BIG) rm_ML_colourOf 0 0 3 ∧ (Cond.static y_ML_colourOf).before args s = true :=
  ⟨cB C (mb (List.mem_of_getElem? (i := 559) (by decide +kernel)) rfl) (mb (List.mem_of_getElem? (i := 57) (by decide +kernel)) rfl) m_ML_colourOf rfl rfl ⟨by decide, by decide, by decide +kernel⟩ hR, C.1.2.2.2.2 _ (mb (List.mem_of_getElem? (i := 335) (by decide +kernel)) rfl)⟩
theorem cw_ByteRow_19 (C : Cx p s m args meth c D tys cc nL "MaskLayers$ByteRow") (hR : rm_ByteRow_holds.frames + 1 ≤ R.frames ∧ 8 + (2 + 11) + rm_ByteRow_holds.locals ≤ R.locals) : CallW R s args "MaskLayers$ByteRow" "MaskLayers$ByteRow" 19 y_ByteRow_holds b_ByteRow_holds 2 (some .boolean) (Cond.code y_ByteRow_holds b_ByteRow_holds 2 (some .boolean) :: BIG) rm_ByteRow_holds 0 0 1 :=
  ⟨cB C (mb (List.mem_of_getElem? (i := 727) (by decide +kernel)) rfl) (mb (List.mem_of_getElem? (i := 60) (by decide +kernel)) rfl) m_ByteRow_holds rfl rfl ⟨by decide, by decide, by decide +kernel⟩ hR, C.1.2.2.2.2 _ (mb (List.mem_of_getElem? (i := 719) (by decide +kernel)) rfl), C.1.2.2.2.2 _ (mb (List.mem_of_getElem? (i := 720) (by decide +kernel)) rfl)⟩
theorem cw_ByteRow_23 (C : Cx p s m args meth c D tys cc nL "MaskLayers$ByteRow") (hR : rm_ByteRow_room.frames + 1 ≤ R.frames ∧ 8 + (1 + 11) + rm_ByteRow_room.locals ≤ R.locals) : CallW R s args "MaskLayers$ByteRow" "MaskLayers$ByteRow" 23 y_ByteRow_room b_ByteRow_room 1 (some .int) (Cond.code y_ByteRow_room b_ByteRow_room 1 (some .int) :: BIG) rm_ByteRow_room 0 0 0 :=
  ⟨cB C (mb (List.mem_of_getElem? (i := 657) (by decide +kernel)) rfl) (mb (List.mem_of_getElem? (i := 60) (by decide +kernel)) rfl) m_ByteRow_room rfl rfl ⟨by decide, by decide, by decide +kernel⟩ hR, C.1.2.2.2.2 _ (mb (List.mem_of_getElem? (i := 658) (by decide +kernel)) rfl), C.1.2.2.2.2 _ (mb (List.mem_of_getElem? (i := 659) (by decide +kernel)) rfl)⟩
theorem mw_ByteRow_27 : MW "MaskLayers$ByteRow" 27 Lib.Math.min.name Lib.Math.min.code := ⟨(mb (List.mem_of_getElem? (i := 661) (by decide +kernel)) rfl), (mb (List.mem_of_getElem? (i := 83) (by decide +kernel)) rfl), (mb (List.mem_of_getElem? (i := 58) (by decide +kernel)) rfl), (mb (List.mem_of_getElem? (i := 84) (by decide +kernel)) rfl)⟩
theorem cw_ByteRow_33 (C : Cx p s m args meth c D tys cc nL "MaskLayers$ByteRow") {mc ms : Nat} (hR : (rm_Arrays_copyOf mc ms).frames + 1 ≤ R.frames ∧ 8 + (3 + 11) + (rm_Arrays_copyOf mc ms).locals ≤ R.locals) : CallB R s args "MaskLayers$ByteRow" 33 y_Arrays_copyOf b_Arrays_copyOf 3 (some (.array .int)) (Cond.code y_Arrays_copyOf b_Arrays_copyOf 3 (some (.array .int)) :: BIG) (rm_Arrays_copyOf mc ms) mc ms 2 ∧ (Cond.static y_Arrays_copyOf).before args s = true :=
  ⟨cB C (mb (List.mem_of_getElem? (i := 662) (by decide +kernel)) rfl) (mb (List.mem_of_getElem? (i := 70) (by decide +kernel)) rfl) m_Arrays_copyOf rfl rfl ⟨by decide, by decide, by decide +kernel⟩ hR, C.1.2.2.2.2 _ (mb (List.mem_of_getElem? (i := 663) (by decide +kernel)) rfl)⟩
theorem cw_ByteRow_39 (C : Cx p s m args meth c D tys cc nL "MaskLayers$ByteRow") (hR : rm_ByteRow_valueAt.frames + 1 ≤ R.frames ∧ 8 + (2 + 11) + rm_ByteRow_valueAt.locals ≤ R.locals) : CallW R s args "MaskLayers$ByteRow" "MaskLayers$ByteRow" 39 y_ByteRow_valueAt b_ByteRow_valueAt 2 (some .int) (Cond.code y_ByteRow_valueAt b_ByteRow_valueAt 2 (some .int) :: BIG) rm_ByteRow_valueAt 0 0 1 :=
  ⟨cB C (mb (List.mem_of_getElem? (i := 777) (by decide +kernel)) rfl) (mb (List.mem_of_getElem? (i := 60) (by decide +kernel)) rfl) m_ByteRow_valueAt rfl rfl ⟨by decide, by decide, by decide +kernel⟩ hR, C.1.2.2.2.2 _ (mb (List.mem_of_getElem? (i := 724) (by decide +kernel)) rfl), C.1.2.2.2.2 _ (mb (List.mem_of_getElem? (i := 725) (by decide +kernel)) rfl)⟩
theorem cw_Layers_30 (C : Cx p s m args meth c D tys cc nL "MaskLayers$Layers") (hR : rm_Arrays_fill.frames + 1 ≤ R.frames ∧ 8 + (4 + 11) + rm_Arrays_fill.locals ≤ R.locals) : CallB R s args "MaskLayers$Layers" 30 y_Arrays_fill b_Arrays_fill 4 none (Cond.code y_Arrays_fill b_Arrays_fill 4 none :: BIG) rm_Arrays_fill 0 0 2 ∧ (Cond.static y_Arrays_fill).before args s = true :=
  ⟨cB C (mb (List.mem_of_getElem? (i := 259) (by decide +kernel)) rfl) (mb (List.mem_of_getElem? (i := 70) (by decide +kernel)) rfl) m_Arrays_fill rfl rfl ⟨by decide, by decide, by decide +kernel⟩ hR, C.1.2.2.2.2 _ (mb (List.mem_of_getElem? (i := 260) (by decide +kernel)) rfl)⟩
theorem cw_Layers_45 (C : Cx p s m args meth c D tys cc nL "MaskLayers$Layers") (hR : rm_ML_parts.frames + 1 ≤ R.frames ∧ 8 + (2 + 11) + rm_ML_parts.locals ≤ R.locals) : va_CN R s args "MaskLayers$Layers" 45 y_ML_parts "MaskLayers" b_ML_parts 2 (some .int) (Cond.code y_ML_parts b_ML_parts 2 (some .int) :: BIG) rm_ML_parts 0 0 2 ∧ (Cond.static y_ML_parts).before args s = true ∧ True :=
  ⟨cN C (mb (List.mem_of_getElem? (i := 57) (by decide +kernel)) rfl) (C.2.2.1 (.methodLinkNest "MaskLayers$Layers" 45 y_ML_parts "MaskLayers") (nwm (List.mem_of_getElem? (i := 276) (by decide +kernel)) rfl)) m_ML_parts rfl rfl ⟨by decide, by decide, by decide +kernel⟩ hR, C.1.2.2.2.2 _ (mb (List.mem_of_getElem? (i := 277) (by decide +kernel)) rfl), trivial⟩
theorem mw_Layers_49 : MW "MaskLayers$Layers" 49 Lib.Math.min.name Lib.Math.min.code := ⟨(mb (List.mem_of_getElem? (i := 320) (by decide +kernel)) rfl), (mb (List.mem_of_getElem? (i := 83) (by decide +kernel)) rfl), (mb (List.mem_of_getElem? (i := 58) (by decide +kernel)) rfl), (mb (List.mem_of_getElem? (i := 84) (by decide +kernel)) rfl)⟩
theorem cw_Layers_54 (C : Cx p s m args meth c D tys cc nL "MaskLayers$Layers") (hR : rm_Layers_startOf.frames + 1 ≤ R.frames ∧ 8 + (2 + 11) + rm_Layers_startOf.locals ≤ R.locals) : CallW R s args "MaskLayers$Layers" "MaskLayers$Layers" 54 y_Layers_startOf b_Layers_startOf 2 (some .int) (Cond.code y_Layers_startOf b_Layers_startOf 2 (some .int) :: BIG) rm_Layers_startOf 0 0 1 :=
  ⟨cB C (mb (List.mem_of_getElem? (i := 315) (by decide +kernel)) rfl) (mb (List.mem_of_getElem? (i := 59) (by decide +kernel)) rfl) m_Layers_startOf rfl rfl ⟨by decide, by decide, by decide +kernel⟩ hR, C.1.2.2.2.2 _ (mb (List.mem_of_getElem? (i := 308) (by decide +kernel)) rfl), C.1.2.2.2.2 _ (mb (List.mem_of_getElem? (i := 309) (by decide +kernel)) rfl)⟩
theorem cw_Layers_58 (C : Cx p s m args meth c D tys cc nL "MaskLayers$Layers") (hR : rm_Layers_rowsOf.frames + 1 ≤ R.frames ∧ 8 + (3 + 11) + rm_Layers_rowsOf.locals ≤ R.locals) : CallW R s args "MaskLayers$Layers" "MaskLayers$Layers" 58 y_Layers_rowsOf b_Layers_rowsOf 3 (some .int) (Cond.code y_Layers_rowsOf b_Layers_rowsOf 3 (some .int) :: BIG) rm_Layers_rowsOf 0 0 2 :=
  ⟨cB C (mb (List.mem_of_getElem? (i := 316) (by decide +kernel)) rfl) (mb (List.mem_of_getElem? (i := 59) (by decide +kernel)) rfl) m_Layers_rowsOf rfl rfl ⟨by decide, by decide, by decide +kernel⟩ hR, C.1.2.2.2.2 _ (mb (List.mem_of_getElem? (i := 317) (by decide +kernel)) rfl), C.1.2.2.2.2 _ (mb (List.mem_of_getElem? (i := 318) (by decide +kernel)) rfl)⟩
theorem cw_Layers_61 (C : Cx p s m args meth c D tys cc nL "MaskLayers$Layers") (hR : rm_Layers_stripeOf.frames + 1 ≤ R.frames ∧ 8 + (2 + 11) + rm_Layers_stripeOf.locals ≤ R.locals) : CallW R s args "MaskLayers$Layers" "MaskLayers$Layers" 61 y_Layers_stripeOf b_Layers_stripeOf 2 (some .int) (Cond.code y_Layers_stripeOf b_Layers_stripeOf 2 (some .int) :: BIG) rm_Layers_stripeOf 0 0 1 :=
  ⟨cB C (mb (List.mem_of_getElem? (i := 569) (by decide +kernel)) rfl) (mb (List.mem_of_getElem? (i := 59) (by decide +kernel)) rfl) m_Layers_stripeOf rfl rfl ⟨by decide, by decide, by decide +kernel⟩ hR, C.1.2.2.2.2 _ (mb (List.mem_of_getElem? (i := 570) (by decide +kernel)) rfl), C.1.2.2.2.2 _ (mb (List.mem_of_getElem? (i := 571) (by decide +kernel)) rfl)⟩
theorem cw_Layers_64 (C : Cx p s m args meth c D tys cc nL "MaskLayers$Layers") (hR : rm_Layers_has.frames + 1 ≤ R.frames ∧ 8 + (3 + 11) + rm_Layers_has.locals ≤ R.locals) : CallW R s args "MaskLayers$Layers" "MaskLayers$Layers" 64 y_Layers_has b_Layers_has 3 (some .boolean) (Cond.code y_Layers_has b_Layers_has 3 (some .boolean) :: BIG) rm_Layers_has 0 0 2 :=
  ⟨cB C (mb (List.mem_of_getElem? (i := 609) (by decide +kernel)) rfl) (mb (List.mem_of_getElem? (i := 59) (by decide +kernel)) rfl) m_Layers_has rfl rfl ⟨by decide, by decide, by decide +kernel⟩ hR, C.1.2.2.2.2 _ (mb (List.mem_of_getElem? (i := 292) (by decide +kernel)) rfl), C.1.2.2.2.2 _ (mb (List.mem_of_getElem? (i := 293) (by decide +kernel)) rfl)⟩
theorem cw_Layers_68 (C : Cx p s m args meth c D tys cc nL "MaskLayers$Layers") (hR : rm_Layers_placeOf.frames + 1 ≤ R.frames ∧ 8 + (6 + 11) + rm_Layers_placeOf.locals ≤ R.locals) : CallW R s args "MaskLayers$Layers" "MaskLayers$Layers" 68 y_Layers_placeOf b_Layers_placeOf 6 (some .int) (Cond.code y_Layers_placeOf b_Layers_placeOf 6 (some .int) :: BIG) rm_Layers_placeOf 0 0 3 :=
  ⟨cB C (mb (List.mem_of_getElem? (i := 610) (by decide +kernel)) rfl) (mb (List.mem_of_getElem? (i := 59) (by decide +kernel)) rfl) m_Layers_placeOf rfl rfl ⟨by decide, by decide, by decide +kernel⟩ hR, C.1.2.2.2.2 _ (mb (List.mem_of_getElem? (i := 566) (by decide +kernel)) rfl), C.1.2.2.2.2 _ (mb (List.mem_of_getElem? (i := 567) (by decide +kernel)) rfl)⟩
theorem cw_Layers_72 (C : Cx p s m args meth c D tys cc nL "MaskLayers$Layers") (hR : rm_Layers_valueAt.frames + 1 ≤ R.frames ∧ 8 + (4 + 11) + rm_Layers_valueAt.locals ≤ R.locals) : CallW R s args "MaskLayers$Layers" "MaskLayers$Layers" 72 y_Layers_valueAt b_Layers_valueAt 4 (some .int) (Cond.code y_Layers_valueAt b_Layers_valueAt 4 (some .int) :: BIG) rm_Layers_valueAt 0 0 3 :=
  ⟨cB C (mb (List.mem_of_getElem? (i := 636) (by decide +kernel)) rfl) (mb (List.mem_of_getElem? (i := 59) (by decide +kernel)) rfl) m_Layers_valueAt rfl rfl ⟨by decide, by decide, by decide +kernel⟩ hR, C.1.2.2.2.2 _ (mb (List.mem_of_getElem? (i := 606) (by decide +kernel)) rfl), C.1.2.2.2.2 _ (mb (List.mem_of_getElem? (i := 607) (by decide +kernel)) rfl)⟩
theorem cw_Layers_75 (C : Cx p s m args meth c D tys cc nL "MaskLayers$Layers") (hR : rm_Layers_joinedAt.frames + 1 ≤ R.frames ∧ 8 + (4 + 11) + rm_Layers_joinedAt.locals ≤ R.locals) : CallW R s args "MaskLayers$Layers" "MaskLayers$Layers" 75 y_Layers_joinedAt b_Layers_joinedAt 4 (some .int) (Cond.code y_Layers_joinedAt b_Layers_joinedAt 4 (some .int) :: BIG) rm_Layers_joinedAt 0 0 2 :=
  ⟨cB C (mb (List.mem_of_getElem? (i := 790) (by decide +kernel)) rfl) (mb (List.mem_of_getElem? (i := 59) (by decide +kernel)) rfl) m_Layers_joinedAt rfl rfl ⟨by decide, by decide, by decide +kernel⟩ hR, C.1.2.2.2.2 _ (mb (List.mem_of_getElem? (i := 633) (by decide +kernel)) rfl), C.1.2.2.2.2 _ (mb (List.mem_of_getElem? (i := 634) (by decide +kernel)) rfl)⟩
theorem cw_Layers_78 (C : Cx p s m args meth c D tys cc nL "MaskLayers$Layers") (hR : rm_ML_sum.frames + 1 ≤ R.frames ∧ 8 + (2 + 11) + rm_ML_sum.locals ≤ R.locals) : va_CN R s args "MaskLayers$Layers" 78 y_ML_sum "MaskLayers" b_ML_sum 2 (some .int) (Cond.code y_ML_sum b_ML_sum 2 (some .int) :: BIG) rm_ML_sum 0 0 2 ∧ (Cond.static y_ML_sum).before args s = true ∧ True :=
  ⟨cN C (mb (List.mem_of_getElem? (i := 57) (by decide +kernel)) rfl) (C.2.2.1 (.methodLinkNest "MaskLayers$Layers" 78 y_ML_sum "MaskLayers") (nwm (List.mem_of_getElem? (i := 791) (by decide +kernel)) rfl)) m_ML_sum rfl rfl ⟨by decide, by decide, by decide +kernel⟩ hR, C.1.2.2.2.2 _ (mb (List.mem_of_getElem? (i := 792) (by decide +kernel)) rfl), trivial⟩
theorem cw_Maker_102 (C : Cx p s m args meth c D tys cc nL "MaskLayers$Maker") (hR : rm_Layers_topOf.frames + 1 ≤ R.frames ∧ 8 + (2 + 11) + rm_Layers_topOf.locals ≤ R.locals) : CallW R s args "MaskLayers$Maker" "MaskLayers$Layers" 102 y_Layers_topOf b_Layers_topOf 2 (some .int) (Cond.code y_Layers_topOf b_Layers_topOf 2 (some .int) :: BIG) rm_Layers_topOf 0 0 1 :=
  ⟨cB C (mb (List.mem_of_getElem? (i := 524) (by decide +kernel)) rfl) (mb (List.mem_of_getElem? (i := 59) (by decide +kernel)) rfl) m_Layers_topOf rfl rfl ⟨by decide, by decide, by decide +kernel⟩ hR, C.1.2.2.2.2 _ (mb (List.mem_of_getElem? (i := 525) (by decide +kernel)) rfl), C.1.2.2.2.2 _ (mb (List.mem_of_getElem? (i := 526) (by decide +kernel)) rfl)⟩
theorem cw_Maker_105 (C : Cx p s m args meth c D tys cc nL "MaskLayers$Maker") (hR : rm_Layers_bottomOf.frames + 1 ≤ R.frames ∧ 8 + (2 + 11) + rm_Layers_bottomOf.locals ≤ R.locals) : CallW R s args "MaskLayers$Maker" "MaskLayers$Layers" 105 y_Layers_bottomOf b_Layers_bottomOf 2 (some .int) (Cond.code y_Layers_bottomOf b_Layers_bottomOf 2 (some .int) :: BIG) rm_Layers_bottomOf 0 0 1 :=
  ⟨cB C (mb (List.mem_of_getElem? (i := 528) (by decide +kernel)) rfl) (mb (List.mem_of_getElem? (i := 59) (by decide +kernel)) rfl) m_Layers_bottomOf rfl rfl ⟨by decide, by decide, by decide +kernel⟩ hR, C.1.2.2.2.2 _ (mb (List.mem_of_getElem? (i := 529) (by decide +kernel)) rfl), C.1.2.2.2.2 _ (mb (List.mem_of_getElem? (i := 530) (by decide +kernel)) rfl)⟩
theorem mw_Maker_108 : MW "MaskLayers$Maker" 108 Lib.Math.min.name Lib.Math.min.code := ⟨(mb (List.mem_of_getElem? (i := 532) (by decide +kernel)) rfl), (mb (List.mem_of_getElem? (i := 83) (by decide +kernel)) rfl), (mb (List.mem_of_getElem? (i := 58) (by decide +kernel)) rfl), (mb (List.mem_of_getElem? (i := 84) (by decide +kernel)) rfl)⟩
theorem cw_Maker_116 (C : Cx p s m args meth c D tys cc nL "MaskLayers$Maker") (hR : rm_ML_red.frames + 1 ≤ R.frames ∧ 8 + (1 + 11) + rm_ML_red.locals ≤ R.locals) : va_CN R s args "MaskLayers$Maker" 116 y_ML_red "MaskLayers" b_ML_red 1 (some .int) (Cond.code y_ML_red b_ML_red 1 (some .int) :: BIG) rm_ML_red 0 0 1 ∧ (Cond.static y_ML_red).before args s = true ∧ True :=
  ⟨cN C (mb (List.mem_of_getElem? (i := 57) (by decide +kernel)) rfl) (C.2.2.1 (.methodLinkNest "MaskLayers$Maker" 116 y_ML_red "MaskLayers") (nwm (List.mem_of_getElem? (i := 533) (by decide +kernel)) rfl)) m_ML_red rfl rfl ⟨by decide, by decide, by decide +kernel⟩ hR, C.1.2.2.2.2 _ (mb (List.mem_of_getElem? (i := 534) (by decide +kernel)) rfl), trivial⟩
theorem cw_Maker_119 (C : Cx p s m args meth c D tys cc nL "MaskLayers$Maker") (hR : rm_ML_green.frames + 1 ≤ R.frames ∧ 8 + (1 + 11) + rm_ML_green.locals ≤ R.locals) : va_CN R s args "MaskLayers$Maker" 119 y_ML_green "MaskLayers" b_ML_green 1 (some .int) (Cond.code y_ML_green b_ML_green 1 (some .int) :: BIG) rm_ML_green 0 0 1 ∧ (Cond.static y_ML_green).before args s = true ∧ True :=
  ⟨cN C (mb (List.mem_of_getElem? (i := 57) (by decide +kernel)) rfl) (C.2.2.1 (.methodLinkNest "MaskLayers$Maker" 119 y_ML_green "MaskLayers") (nwm (List.mem_of_getElem? (i := 536) (by decide +kernel)) rfl)) m_ML_green rfl rfl ⟨by decide, by decide, by decide +kernel⟩ hR, C.1.2.2.2.2 _ (mb (List.mem_of_getElem? (i := 537) (by decide +kernel)) rfl), trivial⟩
theorem cw_Maker_122 (C : Cx p s m args meth c D tys cc nL "MaskLayers$Maker") (hR : rm_ML_blue.frames + 1 ≤ R.frames ∧ 8 + (1 + 11) + rm_ML_blue.locals ≤ R.locals) : va_CN R s args "MaskLayers$Maker" 122 y_ML_blue "MaskLayers" b_ML_blue 1 (some .int) (Cond.code y_ML_blue b_ML_blue 1 (some .int) :: BIG) rm_ML_blue 0 0 1 ∧ (Cond.static y_ML_blue).before args s = true ∧ True :=
  ⟨cN C (mb (List.mem_of_getElem? (i := 57) (by decide +kernel)) rfl) (C.2.2.1 (.methodLinkNest "MaskLayers$Maker" 122 y_ML_blue "MaskLayers") (nwm (List.mem_of_getElem? (i := 539) (by decide +kernel)) rfl)) m_ML_blue rfl rfl ⟨by decide, by decide, by decide +kernel⟩ hR, C.1.2.2.2.2 _ (mb (List.mem_of_getElem? (i := 540) (by decide +kernel)) rfl), trivial⟩
theorem cw_Maker_125 (C : Cx p s m args meth c D tys cc nL "MaskLayers$Maker") (hR : rm_ML_mean.frames + 1 ≤ R.frames ∧ 8 + (2 + 11) + rm_ML_mean.locals ≤ R.locals) : va_CN R s args "MaskLayers$Maker" 125 y_ML_mean "MaskLayers" b_ML_mean 2 (some .int) (Cond.code y_ML_mean b_ML_mean 2 (some .int) :: BIG) rm_ML_mean 0 0 2 ∧ (Cond.static y_ML_mean).before args s = true ∧ True :=
  ⟨cN C (mb (List.mem_of_getElem? (i := 57) (by decide +kernel)) rfl) (C.2.2.1 (.methodLinkNest "MaskLayers$Maker" 125 y_ML_mean "MaskLayers") (nwm (List.mem_of_getElem? (i := 542) (by decide +kernel)) rfl)) m_ML_mean rfl rfl ⟨by decide, by decide, by decide +kernel⟩ hR, C.1.2.2.2.2 _ (mb (List.mem_of_getElem? (i := 543) (by decide +kernel)) rfl), trivial⟩
theorem cw_Maker_128 (C : Cx p s m args meth c D tys cc nL "MaskLayers$Maker") (hR : rm_ML_colourOf.frames + 1 ≤ R.frames ∧ 8 + (3 + 11) + rm_ML_colourOf.locals ≤ R.locals) : va_CN R s args "MaskLayers$Maker" 128 y_ML_colourOf "MaskLayers" b_ML_colourOf 3 (some .int) (Cond.code y_ML_colourOf b_ML_colourOf 3 (some .int) :: BIG) rm_ML_colourOf 0 0 3 ∧ (Cond.static y_ML_colourOf).before args s = true ∧ True :=
  ⟨cN C (mb (List.mem_of_getElem? (i := 57) (by decide +kernel)) rfl) (C.2.2.1 (.methodLinkNest "MaskLayers$Maker" 128 y_ML_colourOf "MaskLayers") (nwm (List.mem_of_getElem? (i := 545) (by decide +kernel)) rfl)) m_ML_colourOf rfl rfl ⟨by decide, by decide, by decide +kernel⟩ hR, C.1.2.2.2.2 _ (mb (List.mem_of_getElem? (i := 335) (by decide +kernel)) rfl), trivial⟩
theorem cw_Maker_131 (C : Cx p s m args meth c D tys cc nL "MaskLayers$Maker") (hR : rm_Maker_fillBetween.frames + 1 ≤ R.frames ∧ 8 + (3 + 11) + rm_Maker_fillBetween.locals ≤ R.locals) : CallB R s args "MaskLayers$Maker" 131 y_Maker_fillBetween b_Maker_fillBetween 3 (some .int) (Cond.code y_Maker_fillBetween b_Maker_fillBetween 3 (some .int) :: BIG) rm_Maker_fillBetween 0 0 3 ∧ (Cond.static y_Maker_fillBetween).before args s = true :=
  ⟨cB C (mb (List.mem_of_getElem? (i := 550) (by decide +kernel)) rfl) (mb (List.mem_of_getElem? (i := 61) (by decide +kernel)) rfl) m_Maker_fillBetween rfl rfl ⟨by decide, by decide, by decide +kernel⟩ hR, C.1.2.2.2.2 _ (mb (List.mem_of_getElem? (i := 551) (by decide +kernel)) rfl)⟩
theorem cw_Maker_134 (C : Cx p s m args meth c D tys cc nL "MaskLayers$Maker") (hR : rm_ML_middle.frames + 1 ≤ R.frames ∧ 8 + (2 + 11) + rm_ML_middle.locals ≤ R.locals) : va_CN R s args "MaskLayers$Maker" 134 y_ML_middle "MaskLayers" b_ML_middle 2 (some .int) (Cond.code y_ML_middle b_ML_middle 2 (some .int) :: BIG) rm_ML_middle 0 0 2 ∧ (Cond.static y_ML_middle).before args s = true ∧ True :=
  ⟨cN C (mb (List.mem_of_getElem? (i := 57) (by decide +kernel)) rfl) (C.2.2.1 (.methodLinkNest "MaskLayers$Maker" 134 y_ML_middle "MaskLayers") (nwm (List.mem_of_getElem? (i := 553) (by decide +kernel)) rfl)) m_ML_middle rfl rfl ⟨by decide, by decide, by decide +kernel⟩ hR, C.1.2.2.2.2 _ (mb (List.mem_of_getElem? (i := 554) (by decide +kernel)) rfl), trivial⟩
theorem cw_Maker_137 (C : Cx p s m args meth c D tys cc nL "MaskLayers$Maker") (hR : rm_ML_difference.frames + 1 ≤ R.frames ∧ 8 + (2 + 11) + rm_ML_difference.locals ≤ R.locals) : va_CN R s args "MaskLayers$Maker" 137 y_ML_difference "MaskLayers" b_ML_difference 2 (some .int) (Cond.code y_ML_difference b_ML_difference 2 (some .int) :: BIG) rm_ML_difference 0 0 2 ∧ (Cond.static y_ML_difference).before args s = true ∧ True :=
  ⟨cN C (mb (List.mem_of_getElem? (i := 57) (by decide +kernel)) rfl) (C.2.2.1 (.methodLinkNest "MaskLayers$Maker" 137 y_ML_difference "MaskLayers") (nwm (List.mem_of_getElem? (i := 573) (by decide +kernel)) rfl)) m_ML_difference rfl rfl ⟨by decide, by decide, by decide +kernel⟩ hR, C.1.2.2.2.2 _ (mb (List.mem_of_getElem? (i := 574) (by decide +kernel)) rfl), trivial⟩
theorem cw_Maker_25 (C : Cx p s m args meth c D tys cc nL "MaskLayers$Maker") (hR : rm_Layers_forget.frames + 1 ≤ R.frames ∧ 8 + (1 + 11) + rm_Layers_forget.locals ≤ R.locals) : CallW R s args "MaskLayers$Maker" "MaskLayers$Layers" 25 y_Layers_forget b_Layers_forget 1 none (Cond.code y_Layers_forget b_Layers_forget 1 none :: BIG) rm_Layers_forget 0 0 0 :=
  ⟨cB C (mb (List.mem_of_getElem? (i := 502) (by decide +kernel)) rfl) (mb (List.mem_of_getElem? (i := 59) (by decide +kernel)) rfl) m_Layers_forget rfl rfl ⟨by decide, by decide, by decide +kernel⟩ hR, C.1.2.2.2.2 _ (mb (List.mem_of_getElem? (i := 256) (by decide +kernel)) rfl), C.1.2.2.2.2 _ (mb (List.mem_of_getElem? (i := 257) (by decide +kernel)) rfl)⟩
theorem cw_Maker_30 (C : Cx p s m args meth c D tys cc nL "MaskLayers$Maker") (hR : rm_Arrays_fill.frames + 1 ≤ R.frames ∧ 8 + (4 + 11) + rm_Arrays_fill.locals ≤ R.locals) : CallB R s args "MaskLayers$Maker" 30 y_Arrays_fill b_Arrays_fill 4 none (Cond.code y_Arrays_fill b_Arrays_fill 4 none :: BIG) rm_Arrays_fill 0 0 2 ∧ (Cond.static y_Arrays_fill).before args s = true :=
  ⟨cB C (mb (List.mem_of_getElem? (i := 503) (by decide +kernel)) rfl) (mb (List.mem_of_getElem? (i := 70) (by decide +kernel)) rfl) m_Arrays_fill rfl rfl ⟨by decide, by decide, by decide +kernel⟩ hR, C.1.2.2.2.2 _ (mb (List.mem_of_getElem? (i := 260) (by decide +kernel)) rfl)⟩
theorem cw_Maker_36 (C : Cx p s m args meth c D tys cc nL "MaskLayers$Maker") (hR : rm_Layers_stripes.frames + 1 ≤ R.frames ∧ 8 + (1 + 11) + rm_Layers_stripes.locals ≤ R.locals) : CallW R s args "MaskLayers$Maker" "MaskLayers$Layers" 36 y_Layers_stripes b_Layers_stripes 1 (some .int) (Cond.code y_Layers_stripes b_Layers_stripes 1 (some .int) :: BIG) rm_Layers_stripes 0 0 0 :=
  ⟨cB C (mb (List.mem_of_getElem? (i := 504) (by decide +kernel)) rfl) (mb (List.mem_of_getElem? (i := 59) (by decide +kernel)) rfl) m_Layers_stripes rfl rfl ⟨by decide, by decide, by decide +kernel⟩ hR, C.1.2.2.2.2 _ (mb (List.mem_of_getElem? (i := 280) (by decide +kernel)) rfl), C.1.2.2.2.2 _ (mb (List.mem_of_getElem? (i := 281) (by decide +kernel)) rfl)⟩
theorem cw_Maker_40 (C : Cx p s m args meth c D tys cc nL "MaskLayers$Maker") (hR : rm_Maker_makeStripe.frames + 1 ≤ R.frames ∧ 8 + (4 + 11) + rm_Maker_makeStripe.locals ≤ R.locals) : CallW R s args "MaskLayers$Maker" "MaskLayers$Maker" 40 y_Maker_makeStripe b_Maker_makeStripe 4 none (Cond.code y_Maker_makeStripe b_Maker_makeStripe 4 none :: BIG) rm_Maker_makeStripe 0 0 2 :=
  ⟨cB C (mb (List.mem_of_getElem? (i := 505) (by decide +kernel)) rfl) (mb (List.mem_of_getElem? (i := 61) (by decide +kernel)) rfl) m_Maker_makeStripe rfl rfl ⟨by decide, by decide, by decide +kernel⟩ hR, C.1.2.2.2.2 _ (mb (List.mem_of_getElem? (i := 507) (by decide +kernel)) rfl), C.1.2.2.2.2 _ (mb (List.mem_of_getElem? (i := 15) (by decide +kernel)) rfl)⟩
theorem cw_Maker_48 (C : Cx p s m args meth c D tys cc nL "MaskLayers$Maker") (hR : rm_Layers_stripeOf.frames + 1 ≤ R.frames ∧ 8 + (2 + 11) + rm_Layers_stripeOf.locals ≤ R.locals) : CallW R s args "MaskLayers$Maker" "MaskLayers$Layers" 48 y_Layers_stripeOf b_Layers_stripeOf 2 (some .int) (Cond.code y_Layers_stripeOf b_Layers_stripeOf 2 (some .int) :: BIG) rm_Layers_stripeOf 0 0 1 :=
  ⟨cB C (mb (List.mem_of_getElem? (i := 623) (by decide +kernel)) rfl) (mb (List.mem_of_getElem? (i := 59) (by decide +kernel)) rfl) m_Layers_stripeOf rfl rfl ⟨by decide, by decide, by decide +kernel⟩ hR, C.1.2.2.2.2 _ (mb (List.mem_of_getElem? (i := 570) (by decide +kernel)) rfl), C.1.2.2.2.2 _ (mb (List.mem_of_getElem? (i := 571) (by decide +kernel)) rfl)⟩
theorem cw_Maker_52 (C : Cx p s m args meth c D tys cc nL "MaskLayers$Maker") (hR : rm_Layers_has.frames + 1 ≤ R.frames ∧ 8 + (3 + 11) + rm_Layers_has.locals ≤ R.locals) : CallW R s args "MaskLayers$Maker" "MaskLayers$Layers" 52 y_Layers_has b_Layers_has 3 (some .boolean) (Cond.code y_Layers_has b_Layers_has 3 (some .boolean) :: BIG) rm_Layers_has 0 0 2 :=
  ⟨cB C (mb (List.mem_of_getElem? (i := 624) (by decide +kernel)) rfl) (mb (List.mem_of_getElem? (i := 59) (by decide +kernel)) rfl) m_Layers_has rfl rfl ⟨by decide, by decide, by decide +kernel⟩ hR, C.1.2.2.2.2 _ (mb (List.mem_of_getElem? (i := 292) (by decide +kernel)) rfl), C.1.2.2.2.2 _ (mb (List.mem_of_getElem? (i := 293) (by decide +kernel)) rfl)⟩
theorem cw_Maker_56 (C : Cx p s m args meth c D tys cc nL "MaskLayers$Maker") (hR : rm_Layers_placeOf.frames + 1 ≤ R.frames ∧ 8 + (6 + 11) + rm_Layers_placeOf.locals ≤ R.locals) : CallW R s args "MaskLayers$Maker" "MaskLayers$Layers" 56 y_Layers_placeOf b_Layers_placeOf 6 (some .int) (Cond.code y_Layers_placeOf b_Layers_placeOf 6 (some .int) :: BIG) rm_Layers_placeOf 0 0 3 :=
  ⟨cB C (mb (List.mem_of_getElem? (i := 565) (by decide +kernel)) rfl) (mb (List.mem_of_getElem? (i := 59) (by decide +kernel)) rfl) m_Layers_placeOf rfl rfl ⟨by decide, by decide, by decide +kernel⟩ hR, C.1.2.2.2.2 _ (mb (List.mem_of_getElem? (i := 566) (by decide +kernel)) rfl), C.1.2.2.2.2 _ (mb (List.mem_of_getElem? (i := 567) (by decide +kernel)) rfl)⟩
theorem cw_Maker_60 (C : Cx p s m args meth c D tys cc nL "MaskLayers$Maker") (hR : rm_Maker_takeMask.frames + 1 ≤ R.frames ∧ 8 + (5 + 11) + rm_Maker_takeMask.locals ≤ R.locals) : CallW R s args "MaskLayers$Maker" "MaskLayers$Maker" 60 y_Maker_takeMask b_Maker_takeMask 5 (some .int) (Cond.code y_Maker_takeMask b_Maker_takeMask 5 (some .int) :: BIG) rm_Maker_takeMask 0 0 1 :=
  ⟨cB C (mb (List.mem_of_getElem? (i := 509) (by decide +kernel)) rfl) (mb (List.mem_of_getElem? (i := 61) (by decide +kernel)) rfl) m_Maker_takeMask rfl rfl ⟨by decide, by decide, by decide +kernel⟩ hR, C.1.2.2.2.2 _ (mb (List.mem_of_getElem? (i := 511) (by decide +kernel)) rfl), C.1.2.2.2.2 _ (mb (List.mem_of_getElem? (i := 16) (by decide +kernel)) rfl)⟩
theorem cw_Maker_63 (C : Cx p s m args meth c D tys cc nL "MaskLayers$Maker") (hR : rm_Layers_endOf.frames + 1 ≤ R.frames ∧ 8 + (3 + 11) + rm_Layers_endOf.locals ≤ R.locals) : CallW R s args "MaskLayers$Maker" "MaskLayers$Layers" 63 y_Layers_endOf b_Layers_endOf 3 (some .int) (Cond.code y_Layers_endOf b_Layers_endOf 3 (some .int) :: BIG) rm_Layers_endOf 0 0 2 :=
  ⟨cB C (mb (List.mem_of_getElem? (i := 513) (by decide +kernel)) rfl) (mb (List.mem_of_getElem? (i := 59) (by decide +kernel)) rfl) m_Layers_endOf rfl rfl ⟨by decide, by decide, by decide +kernel⟩ hR, C.1.2.2.2.2 _ (mb (List.mem_of_getElem? (i := 312) (by decide +kernel)) rfl), C.1.2.2.2.2 _ (mb (List.mem_of_getElem? (i := 313) (by decide +kernel)) rfl)⟩
theorem cw_Maker_67 (C : Cx p s m args meth c D tys cc nL "MaskLayers$Maker") (hR : rm_Layers_startOf.frames + 1 ≤ R.frames ∧ 8 + (2 + 11) + rm_Layers_startOf.locals ≤ R.locals) : CallW R s args "MaskLayers$Maker" "MaskLayers$Layers" 67 y_Layers_startOf b_Layers_startOf 2 (some .int) (Cond.code y_Layers_startOf b_Layers_startOf 2 (some .int) :: BIG) rm_Layers_startOf 0 0 1 :=
  ⟨cB C (mb (List.mem_of_getElem? (i := 514) (by decide +kernel)) rfl) (mb (List.mem_of_getElem? (i := 59) (by decide +kernel)) rfl) m_Layers_startOf rfl rfl ⟨by decide, by decide, by decide +kernel⟩ hR, C.1.2.2.2.2 _ (mb (List.mem_of_getElem? (i := 308) (by decide +kernel)) rfl), C.1.2.2.2.2 _ (mb (List.mem_of_getElem? (i := 309) (by decide +kernel)) rfl)⟩
theorem cw_Maker_70 (C : Cx p s m args meth c D tys cc nL "MaskLayers$Maker") (hR : rm_Maker_makeBlocks.frames + 1 ≤ R.frames ∧ 8 + (10 + 11) + rm_Maker_makeBlocks.locals ≤ R.locals) : CallW R s args "MaskLayers$Maker" "MaskLayers$Maker" 70 y_Maker_makeBlocks b_Maker_makeBlocks 10 (some .int) (Cond.code y_Maker_makeBlocks b_Maker_makeBlocks 10 (some .int) :: BIG) rm_Maker_makeBlocks 0 0 2 :=
  ⟨cB C (mb (List.mem_of_getElem? (i := 515) (by decide +kernel)) rfl) (mb (List.mem_of_getElem? (i := 61) (by decide +kernel)) rfl) m_Maker_makeBlocks rfl rfl ⟨by decide, by decide, by decide +kernel⟩ hR, C.1.2.2.2.2 _ (mb (List.mem_of_getElem? (i := 517) (by decide +kernel)) rfl), C.1.2.2.2.2 _ (mb (List.mem_of_getElem? (i := 17) (by decide +kernel)) rfl)⟩
theorem cw_Maker_73 (C : Cx p s m args meth c D tys cc nL "MaskLayers$Maker") (hR : rm_Maker_fillBlocks.frames + 1 ≤ R.frames ∧ 8 + (12 + 11) + rm_Maker_fillBlocks.locals ≤ R.locals) : CallW R s args "MaskLayers$Maker" "MaskLayers$Maker" 73 y_Maker_fillBlocks b_Maker_fillBlocks 12 none (Cond.code y_Maker_fillBlocks b_Maker_fillBlocks 12 none :: BIG) rm_Maker_fillBlocks 0 0 3 :=
  ⟨cB C (mb (List.mem_of_getElem? (i := 546) (by decide +kernel)) rfl) (mb (List.mem_of_getElem? (i := 61) (by decide +kernel)) rfl) m_Maker_fillBlocks rfl rfl ⟨by decide, by decide, by decide +kernel⟩ hR, C.1.2.2.2.2 _ (mb (List.mem_of_getElem? (i := 548) (by decide +kernel)) rfl), C.1.2.2.2.2 _ (mb (List.mem_of_getElem? (i := 19) (by decide +kernel)) rfl)⟩
theorem cw_Maker_77 (C : Cx p s m args meth c D tys cc nL "MaskLayers$Maker") (hR : rm_Layers_add.frames + 1 ≤ R.frames ∧ 8 + (3 + 11) + rm_Layers_add.locals ≤ R.locals) : CallW R s args "MaskLayers$Maker" "MaskLayers$Layers" 77 y_Layers_add b_Layers_add 3 none (Cond.code y_Layers_add b_Layers_add 3 none :: BIG) rm_Layers_add 0 0 2 :=
  ⟨cB C (mb (List.mem_of_getElem? (i := 560) (by decide +kernel)) rfl) (mb (List.mem_of_getElem? (i := 59) (by decide +kernel)) rfl) m_Layers_add rfl rfl ⟨by decide, by decide, by decide +kernel⟩ hR, C.1.2.2.2.2 _ (mb (List.mem_of_getElem? (i := 346) (by decide +kernel)) rfl), C.1.2.2.2.2 _ (mb (List.mem_of_getElem? (i := 347) (by decide +kernel)) rfl)⟩
theorem cw_Maker_81 (C : Cx p s m args meth c D tys cc nL "MaskLayers$Maker") (hR : rm_Maker_makeRest.frames + 1 ≤ R.frames ∧ 8 + (10 + 11) + rm_Maker_makeRest.locals ≤ R.locals) : CallW R s args "MaskLayers$Maker" "MaskLayers$Maker" 81 y_Maker_makeRest b_Maker_makeRest 10 (some .boolean) (Cond.code y_Maker_makeRest b_Maker_makeRest 10 (some .boolean) :: BIG) rm_Maker_makeRest 0 0 1 :=
  ⟨cB C (mb (List.mem_of_getElem? (i := 561) (by decide +kernel)) rfl) (mb (List.mem_of_getElem? (i := 61) (by decide +kernel)) rfl) m_Maker_makeRest rfl rfl ⟨by decide, by decide, by decide +kernel⟩ hR, C.1.2.2.2.2 _ (mb (List.mem_of_getElem? (i := 563) (by decide +kernel)) rfl), C.1.2.2.2.2 _ (mb (List.mem_of_getElem? (i := 20) (by decide +kernel)) rfl)⟩
theorem cw_Maker_89 (C : Cx p s m args meth c D tys cc nL "MaskLayers$Maker") (hR : rm_Layers_rowsOf.frames + 1 ≤ R.frames ∧ 8 + (3 + 11) + rm_Layers_rowsOf.locals ≤ R.locals) : CallW R s args "MaskLayers$Maker" "MaskLayers$Layers" 89 y_Layers_rowsOf b_Layers_rowsOf 3 (some .int) (Cond.code y_Layers_rowsOf b_Layers_rowsOf 3 (some .int) :: BIG) rm_Layers_rowsOf 0 0 2 :=
  ⟨cB C (mb (List.mem_of_getElem? (i := 519) (by decide +kernel)) rfl) (mb (List.mem_of_getElem? (i := 59) (by decide +kernel)) rfl) m_Layers_rowsOf rfl rfl ⟨by decide, by decide, by decide +kernel⟩ hR, C.1.2.2.2.2 _ (mb (List.mem_of_getElem? (i := 317) (by decide +kernel)) rfl), C.1.2.2.2.2 _ (mb (List.mem_of_getElem? (i := 318) (by decide +kernel)) rfl)⟩
theorem cw_Maker_95 (C : Cx p s m args meth c D tys cc nL "MaskLayers$Maker") (hR : rm_Maker_meanOfBlock.frames + 1 ≤ R.frames ∧ 8 + (18 + 11) + rm_Maker_meanOfBlock.locals ≤ R.locals) : CallW R s args "MaskLayers$Maker" "MaskLayers$Maker" 95 y_Maker_meanOfBlock b_Maker_meanOfBlock 18 (some .int) (Cond.code y_Maker_meanOfBlock b_Maker_meanOfBlock 18 (some .int) :: BIG) rm_Maker_meanOfBlock 0 0 4 :=
  ⟨cB C (mb (List.mem_of_getElem? (i := 520) (by decide +kernel)) rfl) (mb (List.mem_of_getElem? (i := 61) (by decide +kernel)) rfl) m_Maker_meanOfBlock rfl rfl ⟨by decide, by decide, by decide +kernel⟩ hR, C.1.2.2.2.2 _ (mb (List.mem_of_getElem? (i := 522) (by decide +kernel)) rfl), C.1.2.2.2.2 _ (mb (List.mem_of_getElem? (i := 18) (by decide +kernel)) rfl)⟩
theorem cw_Reader_100 (C : Cx p s m args meth c D tys cc nL "MaskLayers$Reader") (hR : rm_Reader_readBits.frames + 1 ≤ R.frames ∧ 8 + (7 + 11) + rm_Reader_readBits.locals ≤ R.locals) : CallW R s args "MaskLayers$Reader" "MaskLayers$Reader" 100 y_Reader_readBits b_Reader_readBits 7 (some .boolean) (Cond.code y_Reader_readBits b_Reader_readBits 7 (some .boolean) :: BIG) rm_Reader_readBits 0 0 2 :=
  ⟨cB C (mb (List.mem_of_getElem? (i := 337) (by decide +kernel)) rfl) (mb (List.mem_of_getElem? (i := 63) (by decide +kernel)) rfl) m_Reader_readBits rfl rfl ⟨by decide, by decide, by decide +kernel⟩ hR, C.1.2.2.2.2 _ (mb (List.mem_of_getElem? (i := 339) (by decide +kernel)) rfl), C.1.2.2.2.2 _ (mb (List.mem_of_getElem? (i := 9) (by decide +kernel)) rfl)⟩
theorem cw_Reader_103 (C : Cx p s m args meth c D tys cc nL "MaskLayers$Reader") (hR : rm_Reader_readColours.frames + 1 ≤ R.frames ∧ 8 + (6 + 11) + rm_Reader_readColours.locals ≤ R.locals) : CallW R s args "MaskLayers$Reader" "MaskLayers$Reader" 103 y_Reader_readColours b_Reader_readColours 6 (some .boolean) (Cond.code y_Reader_readColours b_Reader_readColours 6 (some .boolean) :: BIG) rm_Reader_readColours 0 0 3 :=
  ⟨cB C (mb (List.mem_of_getElem? (i := 341) (by decide +kernel)) rfl) (mb (List.mem_of_getElem? (i := 63) (by decide +kernel)) rfl) m_Reader_readColours rfl rfl ⟨by decide, by decide, by decide +kernel⟩ hR, C.1.2.2.2.2 _ (mb (List.mem_of_getElem? (i := 343) (by decide +kernel)) rfl), C.1.2.2.2.2 _ (mb (List.mem_of_getElem? (i := 10) (by decide +kernel)) rfl)⟩
theorem cw_Reader_106 (C : Cx p s m args meth c D tys cc nL "MaskLayers$Reader") (hR : rm_Layers_add.frames + 1 ≤ R.frames ∧ 8 + (3 + 11) + rm_Layers_add.locals ≤ R.locals) : CallW R s args "MaskLayers$Reader" "MaskLayers$Layers" 106 y_Layers_add b_Layers_add 3 none (Cond.code y_Layers_add b_Layers_add 3 none :: BIG) rm_Layers_add 0 0 2 :=
  ⟨cB C (mb (List.mem_of_getElem? (i := 345) (by decide +kernel)) rfl) (mb (List.mem_of_getElem? (i := 59) (by decide +kernel)) rfl) m_Layers_add rfl rfl ⟨by decide, by decide, by decide +kernel⟩ hR, C.1.2.2.2.2 _ (mb (List.mem_of_getElem? (i := 346) (by decide +kernel)) rfl), C.1.2.2.2.2 _ (mb (List.mem_of_getElem? (i := 347) (by decide +kernel)) rfl)⟩
theorem mw_Reader_110 : MW "MaskLayers$Reader" 110 Lib.Math.min.name Lib.Math.min.code := ⟨(mb (List.mem_of_getElem? (i := 329) (by decide +kernel)) rfl), (mb (List.mem_of_getElem? (i := 83) (by decide +kernel)) rfl), (mb (List.mem_of_getElem? (i := 58) (by decide +kernel)) rfl), (mb (List.mem_of_getElem? (i := 84) (by decide +kernel)) rfl)⟩
theorem cw_Reader_115 (C : Cx p s m args meth c D tys cc nL "MaskLayers$Reader") (hR : rm_Reader_takeValue.frames + 1 ≤ R.frames ∧ 8 + (5 + 11) + rm_Reader_takeValue.locals ≤ R.locals) : CallW R s args "MaskLayers$Reader" "MaskLayers$Reader" 115 y_Reader_takeValue b_Reader_takeValue 5 (some .int) (Cond.code y_Reader_takeValue b_Reader_takeValue 5 (some .int) :: BIG) rm_Reader_takeValue 0 0 1 :=
  ⟨cB C (mb (List.mem_of_getElem? (i := 330) (by decide +kernel)) rfl) (mb (List.mem_of_getElem? (i := 63) (by decide +kernel)) rfl) m_Reader_takeValue rfl rfl ⟨by decide, by decide, by decide +kernel⟩ hR, C.1.2.2.2.2 _ (mb (List.mem_of_getElem? (i := 332) (by decide +kernel)) rfl), C.1.2.2.2.2 _ (mb (List.mem_of_getElem? (i := 8) (by decide +kernel)) rfl)⟩
theorem cw_Reader_122 (C : Cx p s m args meth c D tys cc nL "MaskLayers$Reader") (hR : rm_ML_colourOf.frames + 1 ≤ R.frames ∧ 8 + (3 + 11) + rm_ML_colourOf.locals ≤ R.locals) : va_CN R s args "MaskLayers$Reader" 122 y_ML_colourOf "MaskLayers" b_ML_colourOf 3 (some .int) (Cond.code y_ML_colourOf b_ML_colourOf 3 (some .int) :: BIG) rm_ML_colourOf 0 0 3 ∧ (Cond.static y_ML_colourOf).before args s = true ∧ True :=
  ⟨cN C (mb (List.mem_of_getElem? (i := 57) (by decide +kernel)) rfl) (C.2.2.1 (.methodLinkNest "MaskLayers$Reader" 122 y_ML_colourOf "MaskLayers") (nwm (List.mem_of_getElem? (i := 334) (by decide +kernel)) rfl)) m_ML_colourOf rfl rfl ⟨by decide, by decide, by decide +kernel⟩ hR, C.1.2.2.2.2 _ (mb (List.mem_of_getElem? (i := 335) (by decide +kernel)) rfl), trivial⟩
theorem cw_Reader_30 (C : Cx p s m args meth c D tys cc nL "MaskLayers$Reader") (hR : rm_Layers_forget.frames + 1 ≤ R.frames ∧ 8 + (1 + 11) + rm_Layers_forget.locals ≤ R.locals) : CallW R s args "MaskLayers$Reader" "MaskLayers$Layers" 30 y_Layers_forget b_Layers_forget 1 none (Cond.code y_Layers_forget b_Layers_forget 1 none :: BIG) rm_Layers_forget 0 0 0 :=
  ⟨cB C (mb (List.mem_of_getElem? (i := 255) (by decide +kernel)) rfl) (mb (List.mem_of_getElem? (i := 59) (by decide +kernel)) rfl) m_Layers_forget rfl rfl ⟨by decide, by decide, by decide +kernel⟩ hR, C.1.2.2.2.2 _ (mb (List.mem_of_getElem? (i := 256) (by decide +kernel)) rfl), C.1.2.2.2.2 _ (mb (List.mem_of_getElem? (i := 257) (by decide +kernel)) rfl)⟩
theorem cw_Reader_35 (C : Cx p s m args meth c D tys cc nL "MaskLayers$Reader") (hR : rm_Reader_readHead.frames + 1 ≤ R.frames ∧ 8 + (2 + 11) + rm_Reader_readHead.locals ≤ R.locals) : CallW R s args "MaskLayers$Reader" "MaskLayers$Reader" 35 y_Reader_readHead b_Reader_readHead 2 (some .boolean) (Cond.code y_Reader_readHead b_Reader_readHead 2 (some .boolean) :: BIG) rm_Reader_readHead 0 0 0 :=
  ⟨cB C (mb (List.mem_of_getElem? (i := 262) (by decide +kernel)) rfl) (mb (List.mem_of_getElem? (i := 63) (by decide +kernel)) rfl) m_Reader_readHead rfl rfl ⟨by decide, by decide, by decide +kernel⟩ hR, C.1.2.2.2.2 _ (mb (List.mem_of_getElem? (i := 264) (by decide +kernel)) rfl), C.1.2.2.2.2 _ (mb (List.mem_of_getElem? (i := 0) (by decide +kernel)) rfl)⟩
theorem cw_Reader_39 (C : Cx p s m args meth c D tys cc nL "MaskLayers$Reader") (hR : rm_Layers_stripes.frames + 1 ≤ R.frames ∧ 8 + (1 + 11) + rm_Layers_stripes.locals ≤ R.locals) : CallW R s args "MaskLayers$Reader" "MaskLayers$Layers" 39 y_Layers_stripes b_Layers_stripes 1 (some .int) (Cond.code y_Layers_stripes b_Layers_stripes 1 (some .int) :: BIG) rm_Layers_stripes 0 0 0 :=
  ⟨cB C (mb (List.mem_of_getElem? (i := 279) (by decide +kernel)) rfl) (mb (List.mem_of_getElem? (i := 59) (by decide +kernel)) rfl) m_Layers_stripes rfl rfl ⟨by decide, by decide, by decide +kernel⟩ hR, C.1.2.2.2.2 _ (mb (List.mem_of_getElem? (i := 280) (by decide +kernel)) rfl), C.1.2.2.2.2 _ (mb (List.mem_of_getElem? (i := 281) (by decide +kernel)) rfl)⟩
theorem cw_Reader_43 (C : Cx p s m args meth c D tys cc nL "MaskLayers$Reader") (hR : rm_Reader_readStripe.frames + 1 ≤ R.frames ∧ 8 + (7 + 11) + rm_Reader_readStripe.locals ≤ R.locals) : CallW R s args "MaskLayers$Reader" "MaskLayers$Reader" 43 y_Reader_readStripe b_Reader_readStripe 7 (some .boolean) (Cond.code y_Reader_readStripe b_Reader_readStripe 7 (some .boolean) :: BIG) rm_Reader_readStripe 0 0 1 :=
  ⟨cB C (mb (List.mem_of_getElem? (i := 283) (by decide +kernel)) rfl) (mb (List.mem_of_getElem? (i := 63) (by decide +kernel)) rfl) m_Reader_readStripe rfl rfl ⟨by decide, by decide, by decide +kernel⟩ hR, C.1.2.2.2.2 _ (mb (List.mem_of_getElem? (i := 285) (by decide +kernel)) rfl), C.1.2.2.2.2 _ (mb (List.mem_of_getElem? (i := 2) (by decide +kernel)) rfl)⟩
theorem cw_Reader_52 (C : Cx p s m args meth c D tys cc nL "MaskLayers$Reader") (hR : rm_Reader_refuse.frames + 1 ≤ R.frames ∧ 8 + (2 + 11) + rm_Reader_refuse.locals ≤ R.locals) : CallW R s args "MaskLayers$Reader" "MaskLayers$Reader" 52 y_Reader_refuse b_Reader_refuse 2 (some .boolean) (Cond.code y_Reader_refuse b_Reader_refuse 2 (some .boolean) :: BIG) rm_Reader_refuse 0 0 1 :=
  ⟨cB C (mb (List.mem_of_getElem? (i := 295) (by decide +kernel)) rfl) (mb (List.mem_of_getElem? (i := 63) (by decide +kernel)) rfl) m_Reader_refuse rfl rfl ⟨by decide, by decide, by decide +kernel⟩ hR, C.1.2.2.2.2 _ (mb (List.mem_of_getElem? (i := 297) (by decide +kernel)) rfl), C.1.2.2.2.2 _ (mb (List.mem_of_getElem? (i := 4) (by decide +kernel)) rfl)⟩
theorem cw_Reader_65 (C : Cx p s m args meth c D tys cc nL "MaskLayers$Reader") (hR : rm_Reader_take.frames + 1 ≤ R.frames ∧ 8 + (4 + 11) + rm_Reader_take.locals ≤ R.locals) : CallW R s args "MaskLayers$Reader" "MaskLayers$Reader" 65 y_Reader_take b_Reader_take 4 (some .int) (Cond.code y_Reader_take b_Reader_take 4 (some .int) :: BIG) rm_Reader_take 0 0 2 :=
  ⟨cB C (mb (List.mem_of_getElem? (i := 268) (by decide +kernel)) rfl) (mb (List.mem_of_getElem? (i := 63) (by decide +kernel)) rfl) m_Reader_take rfl rfl ⟨by decide, by decide, by decide +kernel⟩ hR, C.1.2.2.2.2 _ (mb (List.mem_of_getElem? (i := 270) (by decide +kernel)) rfl), C.1.2.2.2.2 _ (mb (List.mem_of_getElem? (i := 1) (by decide +kernel)) rfl)⟩
theorem cw_Reader_69 (C : Cx p s m args meth c D tys cc nL "MaskLayers$Reader") (hR : rm_Layers_shape.frames + 1 ≤ R.frames ∧ 8 + (7 + 11) + rm_Layers_shape.locals ≤ R.locals) : CallW R s args "MaskLayers$Reader" "MaskLayers$Layers" 69 y_Layers_shape b_Layers_shape 7 none (Cond.code y_Layers_shape b_Layers_shape 7 none :: BIG) rm_Layers_shape 0 0 5 :=
  ⟨cB C (mb (List.mem_of_getElem? (i := 272) (by decide +kernel)) rfl) (mb (List.mem_of_getElem? (i := 59) (by decide +kernel)) rfl) m_Layers_shape rfl rfl ⟨by decide, by decide, by decide +kernel⟩ hR, C.1.2.2.2.2 _ (mb (List.mem_of_getElem? (i := 273) (by decide +kernel)) rfl), C.1.2.2.2.2 _ (mb (List.mem_of_getElem? (i := 274) (by decide +kernel)) rfl)⟩
theorem cw_Reader_73 (C : Cx p s m args meth c D tys cc nL "MaskLayers$Reader") (hR : rm_Reader_mayEnd.frames + 1 ≤ R.frames ∧ 8 + (2 + 11) + rm_Reader_mayEnd.locals ≤ R.locals) : CallW R s args "MaskLayers$Reader" "MaskLayers$Reader" 73 y_Reader_mayEnd b_Reader_mayEnd 2 (some .boolean) (Cond.code y_Reader_mayEnd b_Reader_mayEnd 2 (some .boolean) :: BIG) rm_Reader_mayEnd 0 0 1 :=
  ⟨cB C (mb (List.mem_of_getElem? (i := 287) (by decide +kernel)) rfl) (mb (List.mem_of_getElem? (i := 63) (by decide +kernel)) rfl) m_Reader_mayEnd rfl rfl ⟨by decide, by decide, by decide +kernel⟩ hR, C.1.2.2.2.2 _ (mb (List.mem_of_getElem? (i := 289) (by decide +kernel)) rfl), C.1.2.2.2.2 _ (mb (List.mem_of_getElem? (i := 3) (by decide +kernel)) rfl)⟩
theorem cw_Reader_76 (C : Cx p s m args meth c D tys cc nL "MaskLayers$Reader") (hR : rm_Reader_mayFollow.frames + 1 ≤ R.frames ∧ 8 + (3 + 11) + rm_Reader_mayFollow.locals ≤ R.locals) : CallW R s args "MaskLayers$Reader" "MaskLayers$Reader" 76 y_Reader_mayFollow b_Reader_mayFollow 3 (some .boolean) (Cond.code y_Reader_mayFollow b_Reader_mayFollow 3 (some .boolean) :: BIG) rm_Reader_mayFollow 0 0 2 :=
  ⟨cB C (mb (List.mem_of_getElem? (i := 299) (by decide +kernel)) rfl) (mb (List.mem_of_getElem? (i := 63) (by decide +kernel)) rfl) m_Reader_mayFollow rfl rfl ⟨by decide, by decide, by decide +kernel⟩ hR, C.1.2.2.2.2 _ (mb (List.mem_of_getElem? (i := 301) (by decide +kernel)) rfl), C.1.2.2.2.2 _ (mb (List.mem_of_getElem? (i := 5) (by decide +kernel)) rfl)⟩
theorem cw_Reader_80 (C : Cx p s m args meth c D tys cc nL "MaskLayers$Reader") (hR : rm_Reader_readLayer.frames + 1 ≤ R.frames ∧ 8 + (11 + 11) + rm_Reader_readLayer.locals ≤ R.locals) : CallW R s args "MaskLayers$Reader" "MaskLayers$Reader" 80 y_Reader_readLayer b_Reader_readLayer 11 (some .boolean) (Cond.code y_Reader_readLayer b_Reader_readLayer 11 (some .boolean) :: BIG) rm_Reader_readLayer 0 0 2 :=
  ⟨cB C (mb (List.mem_of_getElem? (i := 303) (by decide +kernel)) rfl) (mb (List.mem_of_getElem? (i := 63) (by decide +kernel)) rfl) m_Reader_readLayer rfl rfl ⟨by decide, by decide, by decide +kernel⟩ hR, C.1.2.2.2.2 _ (mb (List.mem_of_getElem? (i := 305) (by decide +kernel)) rfl), C.1.2.2.2.2 _ (mb (List.mem_of_getElem? (i := 6) (by decide +kernel)) rfl)⟩
theorem cw_Reader_83 (C : Cx p s m args meth c D tys cc nL "MaskLayers$Reader") (hR : rm_Layers_has.frames + 1 ≤ R.frames ∧ 8 + (3 + 11) + rm_Layers_has.locals ≤ R.locals) : CallW R s args "MaskLayers$Reader" "MaskLayers$Layers" 83 y_Layers_has b_Layers_has 3 (some .boolean) (Cond.code y_Layers_has b_Layers_has 3 (some .boolean) :: BIG) rm_Layers_has 0 0 2 :=
  ⟨cB C (mb (List.mem_of_getElem? (i := 291) (by decide +kernel)) rfl) (mb (List.mem_of_getElem? (i := 59) (by decide +kernel)) rfl) m_Layers_has rfl rfl ⟨by decide, by decide, by decide +kernel⟩ hR, C.1.2.2.2.2 _ (mb (List.mem_of_getElem? (i := 292) (by decide +kernel)) rfl), C.1.2.2.2.2 _ (mb (List.mem_of_getElem? (i := 293) (by decide +kernel)) rfl)⟩
theorem cw_Reader_86 (C : Cx p s m args meth c D tys cc nL "MaskLayers$Reader") (hR : rm_Layers_startOf.frames + 1 ≤ R.frames ∧ 8 + (2 + 11) + rm_Layers_startOf.locals ≤ R.locals) : CallW R s args "MaskLayers$Reader" "MaskLayers$Layers" 86 y_Layers_startOf b_Layers_startOf 2 (some .int) (Cond.code y_Layers_startOf b_Layers_startOf 2 (some .int) :: BIG) rm_Layers_startOf 0 0 1 :=
  ⟨cB C (mb (List.mem_of_getElem? (i := 307) (by decide +kernel)) rfl) (mb (List.mem_of_getElem? (i := 59) (by decide +kernel)) rfl) m_Layers_startOf rfl rfl ⟨by decide, by decide, by decide +kernel⟩ hR, C.1.2.2.2.2 _ (mb (List.mem_of_getElem? (i := 308) (by decide +kernel)) rfl), C.1.2.2.2.2 _ (mb (List.mem_of_getElem? (i := 309) (by decide +kernel)) rfl)⟩
theorem cw_Reader_90 (C : Cx p s m args meth c D tys cc nL "MaskLayers$Reader") (hR : rm_Layers_endOf.frames + 1 ≤ R.frames ∧ 8 + (3 + 11) + rm_Layers_endOf.locals ≤ R.locals) : CallW R s args "MaskLayers$Reader" "MaskLayers$Layers" 90 y_Layers_endOf b_Layers_endOf 3 (some .int) (Cond.code y_Layers_endOf b_Layers_endOf 3 (some .int) :: BIG) rm_Layers_endOf 0 0 2 :=
  ⟨cB C (mb (List.mem_of_getElem? (i := 311) (by decide +kernel)) rfl) (mb (List.mem_of_getElem? (i := 59) (by decide +kernel)) rfl) m_Layers_endOf rfl rfl ⟨by decide, by decide, by decide +kernel⟩ hR, C.1.2.2.2.2 _ (mb (List.mem_of_getElem? (i := 312) (by decide +kernel)) rfl), C.1.2.2.2.2 _ (mb (List.mem_of_getElem? (i := 313) (by decide +kernel)) rfl)⟩
theorem cw_Reader_93 (C : Cx p s m args meth c D tys cc nL "MaskLayers$Reader") (hR : rm_ML_plainBytes.frames + 1 ≤ R.frames ∧ 8 + (2 + 11) + rm_ML_plainBytes.locals ≤ R.locals) : va_CN R s args "MaskLayers$Reader" 93 y_ML_plainBytes "MaskLayers" b_ML_plainBytes 2 (some .int) (Cond.code y_ML_plainBytes b_ML_plainBytes 2 (some .int) :: BIG) rm_ML_plainBytes 0 0 2 ∧ (Cond.static y_ML_plainBytes).before args s = true ∧ True :=
  ⟨cN C (mb (List.mem_of_getElem? (i := 57) (by decide +kernel)) rfl) (C.2.2.1 (.methodLinkNest "MaskLayers$Reader" 93 y_ML_plainBytes "MaskLayers") (nwm (List.mem_of_getElem? (i := 321) (by decide +kernel)) rfl)) m_ML_plainBytes rfl rfl ⟨by decide, by decide, by decide +kernel⟩ hR, C.1.2.2.2.2 _ (mb (List.mem_of_getElem? (i := 322) (by decide +kernel)) rfl), trivial⟩
theorem cw_Reader_96 (C : Cx p s m args meth c D tys cc nL "MaskLayers$Reader") (hR : rm_Reader_readRuns.frames + 1 ≤ R.frames ∧ 8 + (7 + 11) + rm_Reader_readRuns.locals ≤ R.locals) : CallW R s args "MaskLayers$Reader" "MaskLayers$Reader" 96 y_Reader_readRuns b_Reader_readRuns 7 (some .boolean) (Cond.code y_Reader_readRuns b_Reader_readRuns 7 (some .boolean) :: BIG) rm_Reader_readRuns 0 0 3 :=
  ⟨cB C (mb (List.mem_of_getElem? (i := 325) (by decide +kernel)) rfl) (mb (List.mem_of_getElem? (i := 63) (by decide +kernel)) rfl) m_Reader_readRuns rfl rfl ⟨by decide, by decide, by decide +kernel⟩ hR, C.1.2.2.2.2 _ (mb (List.mem_of_getElem? (i := 327) (by decide +kernel)) rfl), C.1.2.2.2.2 _ (mb (List.mem_of_getElem? (i := 7) (by decide +kernel)) rfl)⟩
theorem cw_Writer_100 (C : Cx p s m args meth c D tys cc nL "MaskLayers$Writer") {mc ms : Nat} (hR : (rm_Writer_writeValue mc ms).frames + 1 ≤ R.frames ∧ 8 + (3 + 11) + (rm_Writer_writeValue mc ms).locals ≤ R.locals) : CallW R s args "MaskLayers$Writer" "MaskLayers$Writer" 100 y_Writer_writeValue b_Writer_writeValue 3 none (Cond.code y_Writer_writeValue b_Writer_writeValue 3 none :: BIG) (rm_Writer_writeValue mc ms) mc ms 2 :=
  ⟨cB C (mb (List.mem_of_getElem? (i := 696) (by decide +kernel)) rfl) (mb (List.mem_of_getElem? (i := 62) (by decide +kernel)) rfl) m_Writer_writeValue rfl rfl ⟨by decide, by decide, by decide +kernel⟩ hR, C.1.2.2.2.2 _ (mb (List.mem_of_getElem? (i := 698) (by decide +kernel)) rfl), C.1.2.2.2.2 _ (mb (List.mem_of_getElem? (i := 24) (by decide +kernel)) rfl)⟩
theorem cw_Writer_103 (C : Cx p s m args meth c D tys cc nL "MaskLayers$Writer") (hR : rm_ML_red.frames + 1 ≤ R.frames ∧ 8 + (1 + 11) + rm_ML_red.locals ≤ R.locals) : va_CN R s args "MaskLayers$Writer" 103 y_ML_red "MaskLayers" b_ML_red 1 (some .int) (Cond.code y_ML_red b_ML_red 1 (some .int) :: BIG) rm_ML_red 0 0 1 ∧ (Cond.static y_ML_red).before args s = true ∧ True :=
  ⟨cN C (mb (List.mem_of_getElem? (i := 57) (by decide +kernel)) rfl) (C.2.2.1 (.methodLinkNest "MaskLayers$Writer" 103 y_ML_red "MaskLayers") (nwm (List.mem_of_getElem? (i := 700) (by decide +kernel)) rfl)) m_ML_red rfl rfl ⟨by decide, by decide, by decide +kernel⟩ hR, C.1.2.2.2.2 _ (mb (List.mem_of_getElem? (i := 534) (by decide +kernel)) rfl), trivial⟩
theorem cw_Writer_106 (C : Cx p s m args meth c D tys cc nL "MaskLayers$Writer") (hR : rm_ML_green.frames + 1 ≤ R.frames ∧ 8 + (1 + 11) + rm_ML_green.locals ≤ R.locals) : va_CN R s args "MaskLayers$Writer" 106 y_ML_green "MaskLayers" b_ML_green 1 (some .int) (Cond.code y_ML_green b_ML_green 1 (some .int) :: BIG) rm_ML_green 0 0 1 ∧ (Cond.static y_ML_green).before args s = true ∧ True :=
  ⟨cN C (mb (List.mem_of_getElem? (i := 57) (by decide +kernel)) rfl) (C.2.2.1 (.methodLinkNest "MaskLayers$Writer" 106 y_ML_green "MaskLayers") (nwm (List.mem_of_getElem? (i := 701) (by decide +kernel)) rfl)) m_ML_green rfl rfl ⟨by decide, by decide, by decide +kernel⟩ hR, C.1.2.2.2.2 _ (mb (List.mem_of_getElem? (i := 537) (by decide +kernel)) rfl), trivial⟩
theorem cw_Writer_109 (C : Cx p s m args meth c D tys cc nL "MaskLayers$Writer") (hR : rm_ML_blue.frames + 1 ≤ R.frames ∧ 8 + (1 + 11) + rm_ML_blue.locals ≤ R.locals) : va_CN R s args "MaskLayers$Writer" 109 y_ML_blue "MaskLayers" b_ML_blue 1 (some .int) (Cond.code y_ML_blue b_ML_blue 1 (some .int) :: BIG) rm_ML_blue 0 0 1 ∧ (Cond.static y_ML_blue).before args s = true ∧ True :=
  ⟨cN C (mb (List.mem_of_getElem? (i := 57) (by decide +kernel)) rfl) (C.2.2.1 (.methodLinkNest "MaskLayers$Writer" 109 y_ML_blue "MaskLayers") (nwm (List.mem_of_getElem? (i := 702) (by decide +kernel)) rfl)) m_ML_blue rfl rfl ⟨by decide, by decide, by decide +kernel⟩ hR, C.1.2.2.2.2 _ (mb (List.mem_of_getElem? (i := 540) (by decide +kernel)) rfl), trivial⟩
theorem cw_Writer_19 (C : Cx p s m args meth c D tys cc nL "MaskLayers$Writer") (hR : rm_ByteRow_empty.frames + 1 ≤ R.frames ∧ 8 + (1 + 11) + rm_ByteRow_empty.locals ≤ R.locals) : CallW R s args "MaskLayers$Writer" "MaskLayers$ByteRow" 19 y_ByteRow_empty b_ByteRow_empty 1 none (Cond.code y_ByteRow_empty b_ByteRow_empty 1 none :: BIG) rm_ByteRow_empty 0 0 0 :=
  ⟨cB C (mb (List.mem_of_getElem? (i := 648) (by decide +kernel)) rfl) (mb (List.mem_of_getElem? (i := 60) (by decide +kernel)) rfl) m_ByteRow_empty rfl rfl ⟨by decide, by decide, by decide +kernel⟩ hR, C.1.2.2.2.2 _ (mb (List.mem_of_getElem? (i := 364) (by decide +kernel)) rfl), C.1.2.2.2.2 _ (mb (List.mem_of_getElem? (i := 365) (by decide +kernel)) rfl)⟩
theorem cw_Writer_24 (C : Cx p s m args meth c D tys cc nL "MaskLayers$Writer") {mc ms : Nat} (hR : (rm_Writer_writeHead mc ms).frames + 1 ≤ R.frames ∧ 8 + (1 + 11) + (rm_Writer_writeHead mc ms).locals ≤ R.locals) : CallW R s args "MaskLayers$Writer" "MaskLayers$Writer" 24 y_Writer_writeHead b_Writer_writeHead 1 none (Cond.code y_Writer_writeHead b_Writer_writeHead 1 none :: BIG) (rm_Writer_writeHead mc ms) mc ms 0 :=
  ⟨cB C (mb (List.mem_of_getElem? (i := 649) (by decide +kernel)) rfl) (mb (List.mem_of_getElem? (i := 62) (by decide +kernel)) rfl) m_Writer_writeHead rfl rfl ⟨by decide, by decide, by decide +kernel⟩ hR, C.1.2.2.2.2 _ (mb (List.mem_of_getElem? (i := 651) (by decide +kernel)) rfl), C.1.2.2.2.2 _ (mb (List.mem_of_getElem? (i := 21) (by decide +kernel)) rfl)⟩
theorem cw_Writer_27 (C : Cx p s m args meth c D tys cc nL "MaskLayers$Writer") (hR : rm_Layers_stripes.frames + 1 ≤ R.frames ∧ 8 + (1 + 11) + rm_Layers_stripes.locals ≤ R.locals) : CallW R s args "MaskLayers$Writer" "MaskLayers$Layers" 27 y_Layers_stripes b_Layers_stripes 1 (some .int) (Cond.code y_Layers_stripes b_Layers_stripes 1 (some .int) :: BIG) rm_Layers_stripes 0 0 0 :=
  ⟨cB C (mb (List.mem_of_getElem? (i := 676) (by decide +kernel)) rfl) (mb (List.mem_of_getElem? (i := 59) (by decide +kernel)) rfl) m_Layers_stripes rfl rfl ⟨by decide, by decide, by decide +kernel⟩ hR, C.1.2.2.2.2 _ (mb (List.mem_of_getElem? (i := 280) (by decide +kernel)) rfl), C.1.2.2.2.2 _ (mb (List.mem_of_getElem? (i := 281) (by decide +kernel)) rfl)⟩
theorem cw_Writer_33 (C : Cx p s m args meth c D tys cc nL "MaskLayers$Writer") (hR : rm_Layers_has.frames + 1 ≤ R.frames ∧ 8 + (3 + 11) + rm_Layers_has.locals ≤ R.locals) : CallW R s args "MaskLayers$Writer" "MaskLayers$Layers" 33 y_Layers_has b_Layers_has 3 (some .boolean) (Cond.code y_Layers_has b_Layers_has 3 (some .boolean) :: BIG) rm_Layers_has 0 0 2 :=
  ⟨cB C (mb (List.mem_of_getElem? (i := 677) (by decide +kernel)) rfl) (mb (List.mem_of_getElem? (i := 59) (by decide +kernel)) rfl) m_Layers_has rfl rfl ⟨by decide, by decide, by decide +kernel⟩ hR, C.1.2.2.2.2 _ (mb (List.mem_of_getElem? (i := 292) (by decide +kernel)) rfl), C.1.2.2.2.2 _ (mb (List.mem_of_getElem? (i := 293) (by decide +kernel)) rfl)⟩
theorem cw_Writer_37 (C : Cx p s m args meth c D tys cc nL "MaskLayers$Writer") {mc ms : Nat} (hR : (rm_Writer_writeLayer mc ms).frames + 1 ≤ R.frames ∧ 8 + (7 + 11) + (rm_Writer_writeLayer mc ms).locals ≤ R.locals) : CallW R s args "MaskLayers$Writer" "MaskLayers$Writer" 37 y_Writer_writeLayer b_Writer_writeLayer 7 none (Cond.code y_Writer_writeLayer b_Writer_writeLayer 7 none :: BIG) (rm_Writer_writeLayer mc ms) mc ms 2 :=
  ⟨cB C (mb (List.mem_of_getElem? (i := 678) (by decide +kernel)) rfl) (mb (List.mem_of_getElem? (i := 62) (by decide +kernel)) rfl) m_Writer_writeLayer rfl rfl ⟨by decide, by decide, by decide +kernel⟩ hR, C.1.2.2.2.2 _ (mb (List.mem_of_getElem? (i := 680) (by decide +kernel)) rfl), C.1.2.2.2.2 _ (mb (List.mem_of_getElem? (i := 22) (by decide +kernel)) rfl)⟩
theorem cw_Writer_41 (C : Cx p s m args meth c D tys cc nL "MaskLayers$Writer") {mc ms : Nat} (hR : (rm_ByteRow_append mc ms).frames + 1 ≤ R.frames ∧ 8 + (2 + 11) + (rm_ByteRow_append mc ms).locals ≤ R.locals) : CallW R s args "MaskLayers$Writer" "MaskLayers$ByteRow" 41 y_ByteRow_append b_ByteRow_append 2 none (Cond.code y_ByteRow_append b_ByteRow_append 2 none :: BIG) (rm_ByteRow_append mc ms) mc ms 1 :=
  ⟨cB C (mb (List.mem_of_getElem? (i := 653) (by decide +kernel)) rfl) (mb (List.mem_of_getElem? (i := 60) (by decide +kernel)) rfl) m_ByteRow_append rfl rfl ⟨by decide, by decide, by decide +kernel⟩ hR, C.1.2.2.2.2 _ (mb (List.mem_of_getElem? (i := 654) (by decide +kernel)) rfl), C.1.2.2.2.2 _ (mb (List.mem_of_getElem? (i := 655) (by decide +kernel)) rfl)⟩
theorem cw_Writer_62 (C : Cx p s m args meth c D tys cc nL "MaskLayers$Writer") (hR : rm_Layers_startOf.frames + 1 ≤ R.frames ∧ 8 + (2 + 11) + rm_Layers_startOf.locals ≤ R.locals) : CallW R s args "MaskLayers$Writer" "MaskLayers$Layers" 62 y_Layers_startOf b_Layers_startOf 2 (some .int) (Cond.code y_Layers_startOf b_Layers_startOf 2 (some .int) :: BIG) rm_Layers_startOf 0 0 1 :=
  ⟨cB C (mb (List.mem_of_getElem? (i := 682) (by decide +kernel)) rfl) (mb (List.mem_of_getElem? (i := 59) (by decide +kernel)) rfl) m_Layers_startOf rfl rfl ⟨by decide, by decide, by decide +kernel⟩ hR, C.1.2.2.2.2 _ (mb (List.mem_of_getElem? (i := 308) (by decide +kernel)) rfl), C.1.2.2.2.2 _ (mb (List.mem_of_getElem? (i := 309) (by decide +kernel)) rfl)⟩
theorem cw_Writer_66 (C : Cx p s m args meth c D tys cc nL "MaskLayers$Writer") (hR : rm_Layers_endOf.frames + 1 ≤ R.frames ∧ 8 + (3 + 11) + rm_Layers_endOf.locals ≤ R.locals) : CallW R s args "MaskLayers$Writer" "MaskLayers$Layers" 66 y_Layers_endOf b_Layers_endOf 3 (some .int) (Cond.code y_Layers_endOf b_Layers_endOf 3 (some .int) :: BIG) rm_Layers_endOf 0 0 2 :=
  ⟨cB C (mb (List.mem_of_getElem? (i := 683) (by decide +kernel)) rfl) (mb (List.mem_of_getElem? (i := 59) (by decide +kernel)) rfl) m_Layers_endOf rfl rfl ⟨by decide, by decide, by decide +kernel⟩ hR, C.1.2.2.2.2 _ (mb (List.mem_of_getElem? (i := 312) (by decide +kernel)) rfl), C.1.2.2.2.2 _ (mb (List.mem_of_getElem? (i := 313) (by decide +kernel)) rfl)⟩
theorem cw_Writer_70 (C : Cx p s m args meth c D tys cc nL "MaskLayers$Writer") (hR : rm_ML_plainBytes.frames + 1 ≤ R.frames ∧ 8 + (2 + 11) + rm_ML_plainBytes.locals ≤ R.locals) : va_CN R s args "MaskLayers$Writer" 70 y_ML_plainBytes "MaskLayers" b_ML_plainBytes 2 (some .int) (Cond.code y_ML_plainBytes b_ML_plainBytes 2 (some .int) :: BIG) rm_ML_plainBytes 0 0 2 ∧ (Cond.static y_ML_plainBytes).before args s = true ∧ True :=
  ⟨cN C (mb (List.mem_of_getElem? (i := 57) (by decide +kernel)) rfl) (C.2.2.1 (.methodLinkNest "MaskLayers$Writer" 70 y_ML_plainBytes "MaskLayers") (nwm (List.mem_of_getElem? (i := 684) (by decide +kernel)) rfl)) m_ML_plainBytes rfl rfl ⟨by decide, by decide, by decide +kernel⟩ hR, C.1.2.2.2.2 _ (mb (List.mem_of_getElem? (i := 322) (by decide +kernel)) rfl), trivial⟩
theorem cw_Writer_77 (C : Cx p s m args meth c D tys cc nL "MaskLayers$Writer") (hR : rm_Writer_countRuns.frames + 1 ≤ R.frames ∧ 8 + (6 + 11) + rm_Writer_countRuns.locals ≤ R.locals) : CallB R s args "MaskLayers$Writer" 77 y_Writer_countRuns b_Writer_countRuns 6 (some .int) (Cond.code y_Writer_countRuns b_Writer_countRuns 6 (some .int) :: BIG) rm_Writer_countRuns 0 0 3 ∧ (Cond.static y_Writer_countRuns).before args s = true :=
  ⟨cB C (mb (List.mem_of_getElem? (i := 685) (by decide +kernel)) rfl) (mb (List.mem_of_getElem? (i := 62) (by decide +kernel)) rfl) m_Writer_countRuns rfl rfl ⟨by decide, by decide, by decide +kernel⟩ hR, C.1.2.2.2.2 _ (mb (List.mem_of_getElem? (i := 686) (by decide +kernel)) rfl)⟩
theorem mw_Writer_81 : MW "MaskLayers$Writer" 81 Lib.Math.min.name Lib.Math.min.code := ⟨(mb (List.mem_of_getElem? (i := 691) (by decide +kernel)) rfl), (mb (List.mem_of_getElem? (i := 83) (by decide +kernel)) rfl), (mb (List.mem_of_getElem? (i := 58) (by decide +kernel)) rfl), (mb (List.mem_of_getElem? (i := 84) (by decide +kernel)) rfl)⟩
theorem cw_Writer_86 (C : Cx p s m args meth c D tys cc nL "MaskLayers$Writer") {mc ms : Nat} (hR : (rm_Writer_writeRuns mc ms).frames + 1 ≤ R.frames ∧ 8 + (7 + 11) + (rm_Writer_writeRuns mc ms).locals ≤ R.locals) : CallW R s args "MaskLayers$Writer" "MaskLayers$Writer" 86 y_Writer_writeRuns b_Writer_writeRuns 7 none (Cond.code y_Writer_writeRuns b_Writer_writeRuns 7 none :: BIG) (rm_Writer_writeRuns mc ms) mc ms 3 :=
  ⟨cB C (mb (List.mem_of_getElem? (i := 692) (by decide +kernel)) rfl) (mb (List.mem_of_getElem? (i := 62) (by decide +kernel)) rfl) m_Writer_writeRuns rfl rfl ⟨by decide, by decide, by decide +kernel⟩ hR, C.1.2.2.2.2 _ (mb (List.mem_of_getElem? (i := 694) (by decide +kernel)) rfl), C.1.2.2.2.2 _ (mb (List.mem_of_getElem? (i := 23) (by decide +kernel)) rfl)⟩
theorem cw_Writer_90 (C : Cx p s m args meth c D tys cc nL "MaskLayers$Writer") {mc ms : Nat} (hR : (rm_Writer_writeBits mc ms).frames + 1 ≤ R.frames ∧ 8 + (7 + 11) + (rm_Writer_writeBits mc ms).locals ≤ R.locals) : CallW R s args "MaskLayers$Writer" "MaskLayers$Writer" 90 y_Writer_writeBits b_Writer_writeBits 7 none (Cond.code y_Writer_writeBits b_Writer_writeBits 7 none :: BIG) (rm_Writer_writeBits mc ms) mc ms 2 :=
  ⟨cB C (mb (List.mem_of_getElem? (i := 703) (by decide +kernel)) rfl) (mb (List.mem_of_getElem? (i := 62) (by decide +kernel)) rfl) m_Writer_writeBits rfl rfl ⟨by decide, by decide, by decide +kernel⟩ hR, C.1.2.2.2.2 _ (mb (List.mem_of_getElem? (i := 705) (by decide +kernel)) rfl), C.1.2.2.2.2 _ (mb (List.mem_of_getElem? (i := 25) (by decide +kernel)) rfl)⟩
theorem cw_Writer_93 (C : Cx p s m args meth c D tys cc nL "MaskLayers$Writer") {mc ms : Nat} (hR : (rm_Writer_writeValues mc ms).frames + 1 ≤ R.frames ∧ 8 + (5 + 11) + (rm_Writer_writeValues mc ms).locals ≤ R.locals) : CallW R s args "MaskLayers$Writer" "MaskLayers$Writer" 93 y_Writer_writeValues b_Writer_writeValues 5 none (Cond.code y_Writer_writeValues b_Writer_writeValues 5 none :: BIG) (rm_Writer_writeValues mc ms) mc ms 3 :=
  ⟨cB C (mb (List.mem_of_getElem? (i := 707) (by decide +kernel)) rfl) (mb (List.mem_of_getElem? (i := 62) (by decide +kernel)) rfl) m_Writer_writeValues rfl rfl ⟨by decide, by decide, by decide +kernel⟩ hR, C.1.2.2.2.2 _ (mb (List.mem_of_getElem? (i := 709) (by decide +kernel)) rfl), C.1.2.2.2.2 _ (mb (List.mem_of_getElem? (i := 26) (by decide +kernel)) rfl)⟩
theorem cw_Writer_96 (C : Cx p s m args meth c D tys cc nL "MaskLayers$Writer") (hR : rm_Writer_runEnds.frames + 1 ≤ R.frames ∧ 8 + (4 + 11) + rm_Writer_runEnds.locals ≤ R.locals) : CallB R s args "MaskLayers$Writer" 96 y_Writer_runEnds b_Writer_runEnds 4 (some .boolean) (Cond.code y_Writer_runEnds b_Writer_runEnds 4 (some .boolean) :: BIG) rm_Writer_runEnds 0 0 4 ∧ (Cond.static y_Writer_runEnds).before args s = true :=
  ⟨cB C (mb (List.mem_of_getElem? (i := 688) (by decide +kernel)) rfl) (mb (List.mem_of_getElem? (i := 62) (by decide +kernel)) rfl) m_Writer_runEnds rfl rfl ⟨by decide, by decide, by decide +kernel⟩ hR, C.1.2.2.2.2 _ (mb (List.mem_of_getElem? (i := 689) (by decide +kernel)) rfl)⟩
theorem mw_Arrays_304 : MW "java/util/Arrays" 304 Lib.Math.min.name Lib.Math.min.code := ⟨(mb (List.mem_of_getElem? (i := 672) (by decide +kernel)) rfl), (mb (List.mem_of_getElem? (i := 83) (by decide +kernel)) rfl), (mb (List.mem_of_getElem? (i := 58) (by decide +kernel)) rfl), (mb (List.mem_of_getElem? (i := 84) (by decide +kernel)) rfl)⟩
end WC
end
section
def ML_isByte (p1 : Int32) : Option Int32 :=
  (if p1 < 0 then zb 0 (some 0)
  else (if 255 < p1 then zb 0 (some 0)
  else zb 1 (some 1)))
set_option maxRecDepth 100000 in
set_option maxHeartbeats 4000000 in
theorem c_ML_isByte (l : Launch) (D : va_G) (cI cR cZ : ClassId)  (p1 : Int32) {res : Int32} (h : ML_isByte p1 = some res) : Met l y_ML_isByte (Cond.code y_ML_isByte b_ML_isByte 1 (some .boolean) :: BIG) rm_ML_isByte (PcP [.int p1] D (tyG cI cR cZ) ([])) (QcP res) 0 0 no := by
  refine met_P (by decide) (Nat.le_of_ble_eq_true rfl) (fun p e s m args below meth c C hr => ?_)
  have C : Cx p s m args meth c D (tyG cI cR cZ) b_ML_isByte 1 "MaskLayers" := C
  have hr : meth.sig.returnType = some .boolean := hr
  show J p l e rm_ML_isByte s m args below meth c D no (fun _ => True) 1 (MQ below (QcP res) args s 0 0 no) 0 0 ([]) [(0, .int p1)] [] 0
  unfold ML_isByte at h
  refine j_iload_n C 0 d_ML_isByte_0 rfl ?_
  refine j_if_lt C 15 d_ML_isByte_1 (by decide) (fun c5 => ?_) (fun c5 => ?_)
  · replace h := (if_pos c5).symm.trans h
    refine j_iconst C (v := 0) d_ML_isByte_15 (by decide) ?_
    obtain ⟨b1, h⟩ := zb_ok h
    obtain rfl := Option.some.inj h
    exact j_pretZ C hr d_ML_isByte_16 b1
  · replace h := (if_neg c5).symm.trans h
    refine j_iload_n C 0 d_ML_isByte_4 rfl ?_
    refine j_sipush C (v := 255) d_ML_isByte_5 (by decide) ?_
    refine j_icmp_gt C 15 d_ML_isByte_8 (by decide) (fun c4 => ?_) (fun c4 => ?_)
    · replace h := (if_pos c4).symm.trans h
      refine j_iconst C (v := 0) d_ML_isByte_15 (by decide) ?_
      obtain ⟨b2, h⟩ := zb_ok h
      obtain rfl := Option.some.inj h
      exact j_pretZ C hr d_ML_isByte_16 b2
    · replace h := (if_neg c4).symm.trans h
      refine j_iconst C (v := 1) d_ML_isByte_11 (by decide) ?_
      refine j_goto C 16 d_ML_isByte_12 (by decide) ?_
      obtain ⟨b3, h⟩ := zb_ok h
      obtain rfl := Option.some.inj h
      exact j_pretZ C hr d_ML_isByte_16 b3
def ML_parts (p1 : Int32) (p2 : Int32) : Option Int32 :=
  (if 1 ≤ p2 then dz p2 (some (((p1 + p2) - 1) / p2))
  else some 0)
set_option maxRecDepth 100000 in
set_option maxHeartbeats 4000000 in
theorem c_ML_parts (l : Launch) (D : va_G) (cI cR cZ : ClassId)  (p1 : Int32) (p2 : Int32) {res : Int32} (h : ML_parts p1 p2 = some res) : Met l y_ML_parts (Cond.code y_ML_parts b_ML_parts 2 (some .int) :: BIG) rm_ML_parts (PcP [.int p1, .int p2] D (tyG cI cR cZ) ([])) (QcP res) 0 0 no := by
  refine met_P (by decide) (Nat.le_of_ble_eq_true rfl) (fun p e s m args below meth c C hr => ?_)
  have C : Cx p s m args meth c D (tyG cI cR cZ) b_ML_parts 2 "MaskLayers" := C
  have hr : meth.sig.returnType = some .int := hr
  show J p l e rm_ML_parts s m args below meth c D no (fun _ => True) 2 (MQ below (QcP res) args s 0 0 no) 0 0 ([]) [(0, .int p1), (1, .int p2)] [] 0
  unfold ML_parts at h
  refine j_iload_n C 1 d_ML_parts_0 rfl ?_
  refine j_iconst C (v := 1) d_ML_parts_1 (by decide) ?_
  refine j_icmp_ge C 9 d_ML_parts_2 (by decide) (fun c2 => ?_) (fun c2 => ?_)
  · replace h := (if_pos c2).symm.trans h
    refine j_iload_n C 0 d_ML_parts_9 rfl ?_
    refine j_iload_n C 1 d_ML_parts_10 rfl ?_
    refine j_iadd C d_ML_parts_11 ?_
    refine j_iconst C (v := 1) d_ML_parts_12 (by decide) ?_
    refine j_isub C d_ML_parts_13 ?_
    refine j_iload_n C 1 d_ML_parts_14 rfl ?_
    obtain ⟨b1, h⟩ := dz_ok h
    refine j_idiv C d_ML_parts_15 b1 ?_
    obtain rfl := Option.some.inj h
    exact j_pret C hr d_ML_parts_16
  · replace h := (if_neg c2).symm.trans h
    refine j_iconst C (v := 0) d_ML_parts_5 (by decide) ?_
    refine j_goto C 16 d_ML_parts_6 (by decide) ?_
    obtain rfl := Option.some.inj h
    exact j_pret C hr d_ML_parts_16
def ML_red (p1 : Int32) : Option Int32 :=
  some ((p1 >>> ((16 : Int32) &&& 31)) &&& 255)
set_option maxRecDepth 100000 in
set_option maxHeartbeats 4000000 in
theorem c_ML_red (l : Launch) (D : va_G) (cI cR cZ : ClassId)  (p1 : Int32) {res : Int32} (h : ML_red p1 = some res) : Met l y_ML_red (Cond.code y_ML_red b_ML_red 1 (some .int) :: BIG) rm_ML_red (PcP [.int p1] D (tyG cI cR cZ) ([])) (QcP res) 0 0 no := by
  refine met_P (by decide) (Nat.le_of_ble_eq_true rfl) (fun p e s m args below meth c C hr => ?_)
  have C : Cx p s m args meth c D (tyG cI cR cZ) b_ML_red 1 "MaskLayers" := C
  have hr : meth.sig.returnType = some .int := hr
  show J p l e rm_ML_red s m args below meth c D no (fun _ => True) 1 (MQ below (QcP res) args s 0 0 no) 0 0 ([]) [(0, .int p1)] [] 0
  unfold ML_red at h
  refine j_iload_n C 0 d_ML_red_0 rfl ?_
  refine j_bipush C (v := 16) d_ML_red_1 (by decide) ?_
  refine j_ishr C d_ML_red_3 ?_
  refine j_sipush C (v := 255) d_ML_red_4 (by decide) ?_
  refine j_iand C d_ML_red_7 ?_
  obtain rfl := Option.some.inj h
  exact j_pret C hr d_ML_red_8
def ML_green (p1 : Int32) : Option Int32 :=
  some ((p1 >>> ((8 : Int32) &&& 31)) &&& 255)
set_option maxRecDepth 100000 in
set_option maxHeartbeats 4000000 in
theorem c_ML_green (l : Launch) (D : va_G) (cI cR cZ : ClassId)  (p1 : Int32) {res : Int32} (h : ML_green p1 = some res) : Met l y_ML_green (Cond.code y_ML_green b_ML_green 1 (some .int) :: BIG) rm_ML_green (PcP [.int p1] D (tyG cI cR cZ) ([])) (QcP res) 0 0 no := by
  refine met_P (by decide) (Nat.le_of_ble_eq_true rfl) (fun p e s m args below meth c C hr => ?_)
  have C : Cx p s m args meth c D (tyG cI cR cZ) b_ML_green 1 "MaskLayers" := C
  have hr : meth.sig.returnType = some .int := hr
  show J p l e rm_ML_green s m args below meth c D no (fun _ => True) 1 (MQ below (QcP res) args s 0 0 no) 0 0 ([]) [(0, .int p1)] [] 0
  unfold ML_green at h
  refine j_iload_n C 0 d_ML_green_0 rfl ?_
  refine j_bipush C (v := 8) d_ML_green_1 (by decide) ?_
  refine j_ishr C d_ML_green_3 ?_
  refine j_sipush C (v := 255) d_ML_green_4 (by decide) ?_
  refine j_iand C d_ML_green_7 ?_
  obtain rfl := Option.some.inj h
  exact j_pret C hr d_ML_green_8
def ML_blue (p1 : Int32) : Option Int32 :=
  some (p1 &&& 255)
set_option maxRecDepth 100000 in
set_option maxHeartbeats 4000000 in
theorem c_ML_blue (l : Launch) (D : va_G) (cI cR cZ : ClassId)  (p1 : Int32) {res : Int32} (h : ML_blue p1 = some res) : Met l y_ML_blue (Cond.code y_ML_blue b_ML_blue 1 (some .int) :: BIG) rm_ML_blue (PcP [.int p1] D (tyG cI cR cZ) ([])) (QcP res) 0 0 no := by
  refine met_P (by decide) (Nat.le_of_ble_eq_true rfl) (fun p e s m args below meth c C hr => ?_)
  have C : Cx p s m args meth c D (tyG cI cR cZ) b_ML_blue 1 "MaskLayers" := C
  have hr : meth.sig.returnType = some .int := hr
  show J p l e rm_ML_blue s m args below meth c D no (fun _ => True) 1 (MQ below (QcP res) args s 0 0 no) 0 0 ([]) [(0, .int p1)] [] 0
  unfold ML_blue at h
  refine j_iload_n C 0 d_ML_blue_0 rfl ?_
  refine j_sipush C (v := 255) d_ML_blue_1 (by decide) ?_
  refine j_iand C d_ML_blue_4 ?_
  obtain rfl := Option.some.inj h
  exact j_pret C hr d_ML_blue_5
def ML_colourOf (p1 : Int32) (p2 : Int32) (p3 : Int32) : Option Int32 :=
  some ((((p1 &&& 255) <<< ((16 : Int32) &&& 31)) ||| ((p2 &&& 255) <<< ((8 : Int32) &&& 31))) ||| (p3 &&& 255))
set_option maxRecDepth 100000 in
set_option maxHeartbeats 4000000 in
theorem c_ML_colourOf (l : Launch) (D : va_G) (cI cR cZ : ClassId)  (p1 : Int32) (p2 : Int32) (p3 : Int32) {res : Int32} (h : ML_colourOf p1 p2 p3 = some res) : Met l y_ML_colourOf (Cond.code y_ML_colourOf b_ML_colourOf 3 (some .int) :: BIG) rm_ML_colourOf (PcP [.int p1, .int p2, .int p3] D (tyG cI cR cZ) ([])) (QcP res) 0 0 no := by
  refine met_P (by decide) (Nat.le_of_ble_eq_true rfl) (fun p e s m args below meth c C hr => ?_)
  have C : Cx p s m args meth c D (tyG cI cR cZ) b_ML_colourOf 3 "MaskLayers" := C
  have hr : meth.sig.returnType = some .int := hr
  show J p l e rm_ML_colourOf s m args below meth c D no (fun _ => True) 3 (MQ below (QcP res) args s 0 0 no) 0 0 ([]) [(0, .int p1), (1, .int p2), (2, .int p3)] [] 0
  unfold ML_colourOf at h
  refine j_iload_n C 0 d_ML_colourOf_0 rfl ?_
  refine j_sipush C (v := 255) d_ML_colourOf_1 (by decide) ?_
  refine j_iand C d_ML_colourOf_4 ?_
  refine j_bipush C (v := 16) d_ML_colourOf_5 (by decide) ?_
  refine j_ishl C d_ML_colourOf_7 ?_
  refine j_iload_n C 1 d_ML_colourOf_8 rfl ?_
  refine j_sipush C (v := 255) d_ML_colourOf_9 (by decide) ?_
  refine j_iand C d_ML_colourOf_12 ?_
  refine j_bipush C (v := 8) d_ML_colourOf_13 (by decide) ?_
  refine j_ishl C d_ML_colourOf_15 ?_
  refine j_ior C d_ML_colourOf_16 ?_
  refine j_iload_n C 2 d_ML_colourOf_17 rfl ?_
  refine j_sipush C (v := 255) d_ML_colourOf_18 (by decide) ?_
  refine j_iand C d_ML_colourOf_21 ?_
  refine j_ior C d_ML_colourOf_22 ?_
  obtain rfl := Option.some.inj h
  exact j_pret C hr d_ML_colourOf_23
def ML_sum (p1 : Int32) (p2 : Int32) : Option Int32 :=
  (ML_red p1).bind fun r1 =>
  (ML_red p2).bind fun r2 =>
  (ML_green p1).bind fun r3 =>
  (ML_green p2).bind fun r4 =>
  (ML_blue p1).bind fun r5 =>
  (ML_blue p2).bind fun r6 =>
  (ML_colourOf (r1 + r2) (r3 + r4) (r5 + r6)).bind fun r7 =>
  some r7
set_option maxRecDepth 100000 in
set_option maxHeartbeats 4000000 in
theorem c_ML_sum (l : Launch) (D : va_G) (cI cR cZ : ClassId)  (p1 : Int32) (p2 : Int32) {res : Int32} (h : ML_sum p1 p2 = some res) : Met l y_ML_sum (Cond.code y_ML_sum b_ML_sum 2 (some .int) :: BIG) rm_ML_sum (PcP [.int p1, .int p2] D (tyG cI cR cZ) ([])) (QcP res) 0 0 no := by
  refine met_P (by decide) (Nat.le_of_ble_eq_true rfl) (fun p e s m args below meth c C hr => ?_)
  have C : Cx p s m args meth c D (tyG cI cR cZ) b_ML_sum 2 "MaskLayers" := C
  have hr : meth.sig.returnType = some .int := hr
  show J p l e rm_ML_sum s m args below meth c D no (fun _ => True) 2 (MQ below (QcP res) args s 0 0 no) 0 0 ([]) [(0, .int p1), (1, .int p2)] [] 0
  unfold ML_sum at h
  refine j_iload_n C 0 d_ML_sum_0 rfl ?_
  obtain ⟨r1, hr1, h⟩ := bd_ok h
  refine j_PS C [.int p1] (c_ML_red l D cI cR cZ p1 hr1) (cw_ML_206 C ⟨Nat.le_of_ble_eq_true rfl, Nat.le_of_ble_eq_true rfl⟩) [] rfl rfl rfl (Nat.le_of_ble_eq_true rfl) d_ML_sum_1 (by decide) ?_
  refine j_iload_n C 1 d_ML_sum_4 rfl ?_
  obtain ⟨r2, hr2, h⟩ := bd_ok h
  refine j_PS C [.int p2] (c_ML_red l D cI cR cZ p2 hr2) (cw_ML_206 C ⟨Nat.le_of_ble_eq_true rfl, Nat.le_of_ble_eq_true rfl⟩) [] rfl rfl rfl (Nat.le_of_ble_eq_true rfl) d_ML_sum_5 (by decide) ?_
  refine j_iadd C d_ML_sum_8 ?_
  refine j_iload_n C 0 d_ML_sum_9 rfl ?_
  obtain ⟨r3, hr3, h⟩ := bd_ok h
  refine j_PS C [.int p1] (c_ML_green l D cI cR cZ p1 hr3) (cw_ML_209 C ⟨Nat.le_of_ble_eq_true rfl, Nat.le_of_ble_eq_true rfl⟩) [] rfl rfl rfl (Nat.le_of_ble_eq_true rfl) d_ML_sum_10 (by decide) ?_
  refine j_iload_n C 1 d_ML_sum_13 rfl ?_
  obtain ⟨r4, hr4, h⟩ := bd_ok h
  refine j_PS C [.int p2] (c_ML_green l D cI cR cZ p2 hr4) (cw_ML_209 C ⟨Nat.le_of_ble_eq_true rfl, Nat.le_of_ble_eq_true rfl⟩) [] rfl rfl rfl (Nat.le_of_ble_eq_true rfl) d_ML_sum_14 (by decide) ?_
  refine j_iadd C d_ML_sum_17 ?_
  refine j_iload_n C 0 d_ML_sum_18 rfl ?_
  obtain ⟨r5, hr5, h⟩ := bd_ok h
  refine j_PS C [.int p1] (c_ML_blue l D cI cR cZ p1 hr5) (cw_ML_212 C ⟨Nat.le_of_ble_eq_true rfl, Nat.le_of_ble_eq_true rfl⟩) [] rfl rfl rfl (Nat.le_of_ble_eq_true rfl) d_ML_sum_19 (by decide) ?_
  refine j_iload_n C 1 d_ML_sum_22 rfl ?_
  obtain ⟨r6, hr6, h⟩ := bd_ok h
  refine j_PS C [.int p2] (c_ML_blue l D cI cR cZ p2 hr6) (cw_ML_212 C ⟨Nat.le_of_ble_eq_true rfl, Nat.le_of_ble_eq_true rfl⟩) [] rfl rfl rfl (Nat.le_of_ble_eq_true rfl) d_ML_sum_23 (by decide) ?_
  refine j_iadd C d_ML_sum_26 ?_
  obtain ⟨r7, hr7, h⟩ := bd_ok h
  refine j_PS C [.int (r1 + r2), .int (r3 + r4), .int (r5 + r6)] (c_ML_colourOf l D cI cR cZ (r1 + r2) (r3 + r4) (r5 + r6) hr7) (cw_ML_215 C ⟨Nat.le_of_ble_eq_true rfl, Nat.le_of_ble_eq_true rfl⟩) [] rfl rfl rfl (Nat.le_of_ble_eq_true rfl) d_ML_sum_27 (by decide) ?_
  obtain rfl := Option.some.inj h
  exact j_pret C hr d_ML_sum_30
def ML_difference (p1 : Int32) (p2 : Int32) : Option Int32 :=
  (ML_red p1).bind fun r1 =>
  (ML_red p2).bind fun r2 =>
  (ML_green p1).bind fun r3 =>
  (ML_green p2).bind fun r4 =>
  (ML_blue p1).bind fun r5 =>
  (ML_blue p2).bind fun r6 =>
  (ML_colourOf (r1 - r2) (r3 - r4) (r5 - r6)).bind fun r7 =>
  some r7
set_option maxRecDepth 100000 in
set_option maxHeartbeats 4000000 in
theorem c_ML_difference (l : Launch) (D : va_G) (cI cR cZ : ClassId)  (p1 : Int32) (p2 : Int32) {res : Int32} (h : ML_difference p1 p2 = some res) : Met l y_ML_difference (Cond.code y_ML_difference b_ML_difference 2 (some .int) :: BIG) rm_ML_difference (PcP [.int p1, .int p2] D (tyG cI cR cZ) ([])) (QcP res) 0 0 no := by
  refine met_P (by decide) (Nat.le_of_ble_eq_true rfl) (fun p e s m args below meth c C hr => ?_)
  have C : Cx p s m args meth c D (tyG cI cR cZ) b_ML_difference 2 "MaskLayers" := C
  have hr : meth.sig.returnType = some .int := hr
  show J p l e rm_ML_difference s m args below meth c D no (fun _ => True) 2 (MQ below (QcP res) args s 0 0 no) 0 0 ([]) [(0, .int p1), (1, .int p2)] [] 0
  unfold ML_difference at h
  refine j_iload_n C 0 d_ML_difference_0 rfl ?_
  obtain ⟨r1, hr1, h⟩ := bd_ok h
  refine j_PS C [.int p1] (c_ML_red l D cI cR cZ p1 hr1) (cw_ML_206 C ⟨Nat.le_of_ble_eq_true rfl, Nat.le_of_ble_eq_true rfl⟩) [] rfl rfl rfl (Nat.le_of_ble_eq_true rfl) d_ML_difference_1 (by decide) ?_
  refine j_iload_n C 1 d_ML_difference_4 rfl ?_
  obtain ⟨r2, hr2, h⟩ := bd_ok h
  refine j_PS C [.int p2] (c_ML_red l D cI cR cZ p2 hr2) (cw_ML_206 C ⟨Nat.le_of_ble_eq_true rfl, Nat.le_of_ble_eq_true rfl⟩) [] rfl rfl rfl (Nat.le_of_ble_eq_true rfl) d_ML_difference_5 (by decide) ?_
  refine j_isub C d_ML_difference_8 ?_
  refine j_iload_n C 0 d_ML_difference_9 rfl ?_
  obtain ⟨r3, hr3, h⟩ := bd_ok h
  refine j_PS C [.int p1] (c_ML_green l D cI cR cZ p1 hr3) (cw_ML_209 C ⟨Nat.le_of_ble_eq_true rfl, Nat.le_of_ble_eq_true rfl⟩) [] rfl rfl rfl (Nat.le_of_ble_eq_true rfl) d_ML_difference_10 (by decide) ?_
  refine j_iload_n C 1 d_ML_difference_13 rfl ?_
  obtain ⟨r4, hr4, h⟩ := bd_ok h
  refine j_PS C [.int p2] (c_ML_green l D cI cR cZ p2 hr4) (cw_ML_209 C ⟨Nat.le_of_ble_eq_true rfl, Nat.le_of_ble_eq_true rfl⟩) [] rfl rfl rfl (Nat.le_of_ble_eq_true rfl) d_ML_difference_14 (by decide) ?_
  refine j_isub C d_ML_difference_17 ?_
  refine j_iload_n C 0 d_ML_difference_18 rfl ?_
  obtain ⟨r5, hr5, h⟩ := bd_ok h
  refine j_PS C [.int p1] (c_ML_blue l D cI cR cZ p1 hr5) (cw_ML_212 C ⟨Nat.le_of_ble_eq_true rfl, Nat.le_of_ble_eq_true rfl⟩) [] rfl rfl rfl (Nat.le_of_ble_eq_true rfl) d_ML_difference_19 (by decide) ?_
  refine j_iload_n C 1 d_ML_difference_22 rfl ?_
  obtain ⟨r6, hr6, h⟩ := bd_ok h
  refine j_PS C [.int p2] (c_ML_blue l D cI cR cZ p2 hr6) (cw_ML_212 C ⟨Nat.le_of_ble_eq_true rfl, Nat.le_of_ble_eq_true rfl⟩) [] rfl rfl rfl (Nat.le_of_ble_eq_true rfl) d_ML_difference_23 (by decide) ?_
  refine j_isub C d_ML_difference_26 ?_
  obtain ⟨r7, hr7, h⟩ := bd_ok h
  refine j_PS C [.int (r1 - r2), .int (r3 - r4), .int (r5 - r6)] (c_ML_colourOf l D cI cR cZ (r1 - r2) (r3 - r4) (r5 - r6) hr7) (cw_ML_215 C ⟨Nat.le_of_ble_eq_true rfl, Nat.le_of_ble_eq_true rfl⟩) [] rfl rfl rfl (Nat.le_of_ble_eq_true rfl) d_ML_difference_27 (by decide) ?_
  obtain rfl := Option.some.inj h
  exact j_pret C hr d_ML_difference_30
def ML_middle (p1 : Int32) (p2 : Int32) : Option Int32 :=
  (ML_red p1).bind fun r1 =>
  (ML_red p2).bind fun r2 =>
  dz 2 ((ML_green p1).bind fun r4 =>
  (ML_green p2).bind fun r5 =>
  dz 2 ((ML_blue p1).bind fun r7 =>
  (ML_blue p2).bind fun r8 =>
  dz 2 ((ML_colourOf ((r1 + r2) / 2) ((r4 + r5) / 2) ((r7 + r8) / 2)).bind fun r10 =>
  some r10)))
set_option maxRecDepth 100000 in
set_option maxHeartbeats 4000000 in
theorem c_ML_middle (l : Launch) (D : va_G) (cI cR cZ : ClassId)  (p1 : Int32) (p2 : Int32) {res : Int32} (h : ML_middle p1 p2 = some res) : Met l y_ML_middle (Cond.code y_ML_middle b_ML_middle 2 (some .int) :: BIG) rm_ML_middle (PcP [.int p1, .int p2] D (tyG cI cR cZ) ([])) (QcP res) 0 0 no := by
  refine met_P (by decide) (Nat.le_of_ble_eq_true rfl) (fun p e s m args below meth c C hr => ?_)
  have C : Cx p s m args meth c D (tyG cI cR cZ) b_ML_middle 2 "MaskLayers" := C
  have hr : meth.sig.returnType = some .int := hr
  show J p l e rm_ML_middle s m args below meth c D no (fun _ => True) 2 (MQ below (QcP res) args s 0 0 no) 0 0 ([]) [(0, .int p1), (1, .int p2)] [] 0
  unfold ML_middle at h
  refine j_iload_n C 0 d_ML_middle_0 rfl ?_
  obtain ⟨r1, hr1, h⟩ := bd_ok h
  refine j_PS C [.int p1] (c_ML_red l D cI cR cZ p1 hr1) (cw_ML_206 C ⟨Nat.le_of_ble_eq_true rfl, Nat.le_of_ble_eq_true rfl⟩) [] rfl rfl rfl (Nat.le_of_ble_eq_true rfl) d_ML_middle_1 (by decide) ?_
  refine j_iload_n C 1 d_ML_middle_4 rfl ?_
  obtain ⟨r2, hr2, h⟩ := bd_ok h
  refine j_PS C [.int p2] (c_ML_red l D cI cR cZ p2 hr2) (cw_ML_206 C ⟨Nat.le_of_ble_eq_true rfl, Nat.le_of_ble_eq_true rfl⟩) [] rfl rfl rfl (Nat.le_of_ble_eq_true rfl) d_ML_middle_5 (by decide) ?_
  refine j_iadd C d_ML_middle_8 ?_
  refine j_iconst C (v := 2) d_ML_middle_9 (by decide) ?_
  obtain ⟨b3, h⟩ := dz_ok h
  refine j_idiv C d_ML_middle_10 b3 ?_
  refine j_iload_n C 0 d_ML_middle_11 rfl ?_
  obtain ⟨r4, hr4, h⟩ := bd_ok h
  refine j_PS C [.int p1] (c_ML_green l D cI cR cZ p1 hr4) (cw_ML_209 C ⟨Nat.le_of_ble_eq_true rfl, Nat.le_of_ble_eq_true rfl⟩) [] rfl rfl rfl (Nat.le_of_ble_eq_true rfl) d_ML_middle_12 (by decide) ?_
  refine j_iload_n C 1 d_ML_middle_15 rfl ?_
  obtain ⟨r5, hr5, h⟩ := bd_ok h
  refine j_PS C [.int p2] (c_ML_green l D cI cR cZ p2 hr5) (cw_ML_209 C ⟨Nat.le_of_ble_eq_true rfl, Nat.le_of_ble_eq_true rfl⟩) [] rfl rfl rfl (Nat.le_of_ble_eq_true rfl) d_ML_middle_16 (by decide) ?_
  refine j_iadd C d_ML_middle_19 ?_
  refine j_iconst C (v := 2) d_ML_middle_20 (by decide) ?_
  obtain ⟨b6, h⟩ := dz_ok h
  refine j_idiv C d_ML_middle_21 b6 ?_
  refine j_iload_n C 0 d_ML_middle_22 rfl ?_
  obtain ⟨r7, hr7, h⟩ := bd_ok h
  refine j_PS C [.int p1] (c_ML_blue l D cI cR cZ p1 hr7) (cw_ML_212 C ⟨Nat.le_of_ble_eq_true rfl, Nat.le_of_ble_eq_true rfl⟩) [] rfl rfl rfl (Nat.le_of_ble_eq_true rfl) d_ML_middle_23 (by decide) ?_
  refine j_iload_n C 1 d_ML_middle_26 rfl ?_
  obtain ⟨r8, hr8, h⟩ := bd_ok h
  refine j_PS C [.int p2] (c_ML_blue l D cI cR cZ p2 hr8) (cw_ML_212 C ⟨Nat.le_of_ble_eq_true rfl, Nat.le_of_ble_eq_true rfl⟩) [] rfl rfl rfl (Nat.le_of_ble_eq_true rfl) d_ML_middle_27 (by decide) ?_
  refine j_iadd C d_ML_middle_30 ?_
  refine j_iconst C (v := 2) d_ML_middle_31 (by decide) ?_
  obtain ⟨b9, h⟩ := dz_ok h
  refine j_idiv C d_ML_middle_32 b9 ?_
  obtain ⟨r10, hr10, h⟩ := bd_ok h
  refine j_PS C [.int ((r1 + r2) / 2), .int ((r4 + r5) / 2), .int ((r7 + r8) / 2)] (c_ML_colourOf l D cI cR cZ ((r1 + r2) / 2) ((r4 + r5) / 2) ((r7 + r8) / 2) hr10) (cw_ML_215 C ⟨Nat.le_of_ble_eq_true rfl, Nat.le_of_ble_eq_true rfl⟩) [] rfl rfl rfl (Nat.le_of_ble_eq_true rfl) d_ML_middle_33 (by decide) ?_
  obtain rfl := Option.some.inj h
  exact j_pret C hr d_ML_middle_36
def ML_mean (p1 : Int32) (p2 : Int32) : Option Int32 :=
  (if 1 ≤ p2 then dz (2 * p2) (some (((2 * p1) + p2) / (2 * p2)))
  else some 0)
set_option maxRecDepth 100000 in
set_option maxHeartbeats 4000000 in
theorem c_ML_mean (l : Launch) (D : va_G) (cI cR cZ : ClassId)  (p1 : Int32) (p2 : Int32) {res : Int32} (h : ML_mean p1 p2 = some res) : Met l y_ML_mean (Cond.code y_ML_mean b_ML_mean 2 (some .int) :: BIG) rm_ML_mean (PcP [.int p1, .int p2] D (tyG cI cR cZ) ([])) (QcP res) 0 0 no := by
  refine met_P (by decide) (Nat.le_of_ble_eq_true rfl) (fun p e s m args below meth c C hr => ?_)
  have C : Cx p s m args meth c D (tyG cI cR cZ) b_ML_mean 2 "MaskLayers" := C
  have hr : meth.sig.returnType = some .int := hr
  show J p l e rm_ML_mean s m args below meth c D no (fun _ => True) 2 (MQ below (QcP res) args s 0 0 no) 0 0 ([]) [(0, .int p1), (1, .int p2)] [] 0
  unfold ML_mean at h
  refine j_iload_n C 1 d_ML_mean_0 rfl ?_
  refine j_iconst C (v := 1) d_ML_mean_1 (by decide) ?_
  refine j_icmp_ge C 9 d_ML_mean_2 (by decide) (fun c2 => ?_) (fun c2 => ?_)
  · replace h := (if_pos c2).symm.trans h
    refine j_iconst C (v := 2) d_ML_mean_9 (by decide) ?_
    refine j_iload_n C 0 d_ML_mean_10 rfl ?_
    refine j_imul C d_ML_mean_11 ?_
    refine j_iload_n C 1 d_ML_mean_12 rfl ?_
    refine j_iadd C d_ML_mean_13 ?_
    refine j_iconst C (v := 2) d_ML_mean_14 (by decide) ?_
    refine j_iload_n C 1 d_ML_mean_15 rfl ?_
    refine j_imul C d_ML_mean_16 ?_
    obtain ⟨b1, h⟩ := dz_ok h
    refine j_idiv C d_ML_mean_17 b1 ?_
    obtain rfl := Option.some.inj h
    exact j_pret C hr d_ML_mean_18
  · replace h := (if_neg c2).symm.trans h
    refine j_iconst C (v := 0) d_ML_mean_5 (by decide) ?_
    refine j_goto C 18 d_ML_mean_6 (by decide) ?_
    obtain rfl := Option.some.inj h
    exact j_pret C hr d_ML_mean_18
def ML_plainBytes (p1 : Int32) (p2 : Int32) : Option Int32 :=
  (if p1 = 1 then (ML_parts p2 8).bind fun r1 =>
  some r1
  else some (3 * p2))
set_option maxRecDepth 100000 in
set_option maxHeartbeats 4000000 in
theorem c_ML_plainBytes (l : Launch) (D : va_G) (cI cR cZ : ClassId)  (p1 : Int32) (p2 : Int32) {res : Int32} (h : ML_plainBytes p1 p2 = some res) : Met l y_ML_plainBytes (Cond.code y_ML_plainBytes b_ML_plainBytes 2 (some .int) :: BIG) rm_ML_plainBytes (PcP [.int p1, .int p2] D (tyG cI cR cZ) ([])) (QcP res) 0 0 no := by
  refine met_P (by decide) (Nat.le_of_ble_eq_true rfl) (fun p e s m args below meth c C hr => ?_)
  have C : Cx p s m args meth c D (tyG cI cR cZ) b_ML_plainBytes 2 "MaskLayers" := C
  have hr : meth.sig.returnType = some .int := hr
  show J p l e rm_ML_plainBytes s m args below meth c D no (fun _ => True) 2 (MQ below (QcP res) args s 0 0 no) 0 0 ([]) [(0, .int p1), (1, .int p2)] [] 0
  unfold ML_plainBytes at h
  refine j_iload_n C 0 d_ML_plainBytes_0 rfl ?_
  refine j_iconst C (v := 1) d_ML_plainBytes_1 (by decide) ?_
  refine j_icmp_ne C 14 d_ML_plainBytes_2 (by decide) (fun c2 => ?_) (fun c2 => ?_)
  · replace h := (if_neg c2).symm.trans h
    refine j_iconst C (v := 3) d_ML_plainBytes_14 (by decide) ?_
    refine j_iload_n C 1 d_ML_plainBytes_15 rfl ?_
    refine j_imul C d_ML_plainBytes_16 ?_
    obtain rfl := Option.some.inj h
    exact j_pret C hr d_ML_plainBytes_17
  · replace h := (if_pos c2).symm.trans h
    refine j_iload_n C 1 d_ML_plainBytes_5 rfl ?_
    refine j_bipush C (v := 8) d_ML_plainBytes_6 (by decide) ?_
    obtain ⟨r1, hr1, h⟩ := bd_ok h
    refine j_PS C [.int p2, .int 8] (c_ML_parts l D cI cR cZ p2 8 hr1) (cw_ML_109 C ⟨Nat.le_of_ble_eq_true rfl, Nat.le_of_ble_eq_true rfl⟩) [] rfl rfl rfl (Nat.le_of_ble_eq_true rfl) d_ML_plainBytes_8 (by decide) ?_
    refine j_goto C 17 d_ML_plainBytes_11 (by decide) ?_
    obtain rfl := Option.some.inj h
    exact j_pret C hr d_ML_plainBytes_17
end
section
def Layers_has (n : Nat) (L : LyS) (p1 : Int32) (p2 : Int32) : Option Int32 :=
  gd p1 24 ((if (((L.2 4 p1.toNatClampNeg) >>> (p2 &&& 31)) &&& 1) = 1 then zb 1 (some 1)
  else zb 0 (some 0)))
set_option maxRecDepth 100000 in
set_option maxHeartbeats 4000000 in
theorem c_Layers_has (l : Launch) (D : va_G) (cI cR cZ : ClassId) (a : (Nat → Nat)) (n : Nat) (L : LyS) (p1 : Int32) (p2 : Int32) {res : Int32} (h : Layers_has n L p1 p2 = some res) : Met l y_Layers_has (Cond.code y_Layers_has b_Layers_has 3 (some .boolean) :: BIG) rm_Layers_has (PcP [.ref (a 0), .int p1, .int p2] D (tyG cI cR cZ) (wLy cI cR a n L)) (QcP res) 0 0 no := by
  refine met_P (by decide) (Nat.le_of_ble_eq_true rfl) (fun p e s m args below meth c C hr => ?_)
  have C : Cx p s m args meth c D (tyG cI cR cZ) b_Layers_has 3 "MaskLayers$Layers" := C
  have hr : meth.sig.returnType = some .boolean := hr
  show J p l e rm_Layers_has s m args below meth c D no (fun _ => True) 3 (MQ below (QcP res) args s 0 0 no) 0 0 (wLy cI cR a n L) [(0, .ref (a 0)), (1, .int p1), (2, .int p2)] [] 0
  unfold Layers_has at h
  refine j_aload_n C 0 d_Layers_has_0 rfl ?_
  refine gf_Layers_16 C 0 (v := .ref (a 6)) rfl rfl d_Layers_has_1 ?_
  refine j_iload_n C 1 d_Layers_has_4 rfl ?_
  obtain ⟨b1, h⟩ := gd_ok h
  refine j_iald C (6) (t0 := 0) rfl rfl b1 d_Layers_has_5 ?_
  refine j_iload_n C 2 d_Layers_has_6 rfl ?_
  refine j_ishr C d_Layers_has_7 ?_
  refine j_iconst C (v := 1) d_Layers_has_8 (by decide) ?_
  refine j_iand C d_Layers_has_9 ?_
  refine j_iconst C (v := 1) d_Layers_has_10 (by decide) ?_
  refine j_icmp_ne C 18 d_Layers_has_11 (by decide) (fun c4 => ?_) (fun c4 => ?_)
  · replace h := (if_neg c4).symm.trans h
    refine j_iconst C (v := 0) d_Layers_has_18 (by decide) ?_
    obtain ⟨b2, h⟩ := zb_ok h
    obtain rfl := Option.some.inj h
    exact j_pretZ C hr d_Layers_has_19 b2
  · replace h := (if_pos c4).symm.trans h
    refine j_iconst C (v := 1) d_Layers_has_14 (by decide) ?_
    refine j_goto C 19 d_Layers_has_15 (by decide) ?_
    obtain ⟨b3, h⟩ := zb_ok h
    obtain rfl := Option.some.inj h
    exact j_pretZ C hr d_Layers_has_19 b3
def Layers_hasSample (n : Nat) (L : LyS) (p1 : Int32) (p2 : Int32) : Option Int32 :=
  (if p1 < 0 then zb 0 (some 0)
  else (if (L.1 0) ≤ p1 then zb 0 (some 0)
  else (if p2 < 0 then zb 0 (some 0)
  else (if (L.1 1) ≤ p2 then zb 0 (some 0)
  else zb 1 (some 1)))))
set_option maxRecDepth 100000 in
set_option maxHeartbeats 4000000 in
theorem c_Layers_hasSample (l : Launch) (D : va_G) (cI cR cZ : ClassId) (a : (Nat → Nat)) (n : Nat) (L : LyS) (p1 : Int32) (p2 : Int32) {res : Int32} (h : Layers_hasSample n L p1 p2 = some res) : Met l y_Layers_hasSample (Cond.code y_Layers_hasSample b_Layers_hasSample 3 (some .boolean) :: BIG) rm_Layers_hasSample (PcP [.ref (a 0), .int p1, .int p2] D (tyG cI cR cZ) (wLy cI cR a n L)) (QcP res) 0 0 no := by
  refine met_P (by decide) (Nat.le_of_ble_eq_true rfl) (fun p e s m args below meth c C hr => ?_)
  have C : Cx p s m args meth c D (tyG cI cR cZ) b_Layers_hasSample 3 "MaskLayers$Layers" := C
  have hr : meth.sig.returnType = some .boolean := hr
  show J p l e rm_Layers_hasSample s m args below meth c D no (fun _ => True) 3 (MQ below (QcP res) args s 0 0 no) 0 0 (wLy cI cR a n L) [(0, .ref (a 0)), (1, .int p1), (2, .int p2)] [] 0
  unfold Layers_hasSample at h
  refine j_iload_n C 1 d_Layers_hasSample_0 rfl ?_
  refine j_if_lt C 28 d_Layers_hasSample_1 (by decide) (fun c9 => ?_) (fun c9 => ?_)
  · replace h := (if_pos c9).symm.trans h
    refine j_iconst C (v := 0) d_Layers_hasSample_28 (by decide) ?_
    obtain ⟨b1, h⟩ := zb_ok h
    obtain rfl := Option.some.inj h
    exact j_pretZ C hr d_Layers_hasSample_29 b1
  · replace h := (if_neg c9).symm.trans h
    refine j_iload_n C 1 d_Layers_hasSample_4 rfl ?_
    refine j_aload_n C 0 d_Layers_hasSample_5 rfl ?_
    refine gf_Layers_39 C 0 (v := .int (L.1 0)) rfl rfl d_Layers_hasSample_6 ?_
    refine j_icmp_ge C 28 d_Layers_hasSample_9 (by decide) (fun c8 => ?_) (fun c8 => ?_)
    · replace h := (if_pos c8).symm.trans h
      refine j_iconst C (v := 0) d_Layers_hasSample_28 (by decide) ?_
      obtain ⟨b2, h⟩ := zb_ok h
      obtain rfl := Option.some.inj h
      exact j_pretZ C hr d_Layers_hasSample_29 b2
    · replace h := (if_neg c8).symm.trans h
      refine j_iload_n C 2 d_Layers_hasSample_12 rfl ?_
      refine j_if_lt C 28 d_Layers_hasSample_13 (by decide) (fun c7 => ?_) (fun c7 => ?_)
      · replace h := (if_pos c7).symm.trans h
        refine j_iconst C (v := 0) d_Layers_hasSample_28 (by decide) ?_
        obtain ⟨b3, h⟩ := zb_ok h
        obtain rfl := Option.some.inj h
        exact j_pretZ C hr d_Layers_hasSample_29 b3
      · replace h := (if_neg c7).symm.trans h
        refine j_iload_n C 2 d_Layers_hasSample_16 rfl ?_
        refine j_aload_n C 0 d_Layers_hasSample_17 rfl ?_
        refine gf_Layers_42 C 0 (v := .int (L.1 1)) rfl rfl d_Layers_hasSample_18 ?_
        refine j_icmp_ge C 28 d_Layers_hasSample_21 (by decide) (fun c6 => ?_) (fun c6 => ?_)
        · replace h := (if_pos c6).symm.trans h
          refine j_iconst C (v := 0) d_Layers_hasSample_28 (by decide) ?_
          obtain ⟨b4, h⟩ := zb_ok h
          obtain rfl := Option.some.inj h
          exact j_pretZ C hr d_Layers_hasSample_29 b4
        · replace h := (if_neg c6).symm.trans h
          refine j_iconst C (v := 1) d_Layers_hasSample_24 (by decide) ?_
          refine j_goto C 29 d_Layers_hasSample_25 (by decide) ?_
          obtain ⟨b5, h⟩ := zb_ok h
          obtain rfl := Option.some.inj h
          exact j_pretZ C hr d_Layers_hasSample_29 b5
def Layers_stripes (n : Nat) (L : LyS) : Option Int32 :=
  (ML_parts (L.1 1) (L.1 2)).bind fun r1 =>
  some r1
set_option maxRecDepth 100000 in
set_option maxHeartbeats 4000000 in
theorem c_Layers_stripes (l : Launch) (D : va_G) (cI cR cZ : ClassId) (a : (Nat → Nat)) (n : Nat) (L : LyS) {res : Int32} (h : Layers_stripes n L = some res) : Met l y_Layers_stripes (Cond.code y_Layers_stripes b_Layers_stripes 1 (some .int) :: BIG) rm_Layers_stripes (PcP [.ref (a 0)] D (tyG cI cR cZ) (wLy cI cR a n L)) (QcP res) 0 0 no := by
  refine met_P (by decide) (Nat.le_of_ble_eq_true rfl) (fun p e s m args below meth c C hr => ?_)
  have C : Cx p s m args meth c D (tyG cI cR cZ) b_Layers_stripes 1 "MaskLayers$Layers" := C
  have hr : meth.sig.returnType = some .int := hr
  show J p l e rm_Layers_stripes s m args below meth c D no (fun _ => True) 1 (MQ below (QcP res) args s 0 0 no) 0 0 (wLy cI cR a n L) [(0, .ref (a 0))] [] 0
  unfold Layers_stripes at h
  refine j_aload_n C 0 d_Layers_stripes_0 rfl ?_
  refine gf_Layers_42 C 0 (v := .int (L.1 1)) rfl rfl d_Layers_stripes_1 ?_
  refine j_aload_n C 0 d_Layers_stripes_4 rfl ?_
  refine gf_Layers_26 C 0 (v := .int (L.1 2)) rfl rfl d_Layers_stripes_5 ?_
  obtain ⟨r1, hr1, h⟩ := bd_ok h
  refine j_PSN C [.int (L.1 1), .int (L.1 2)] (c_ML_parts l D cI cR cZ (L.1 1) (L.1 2) hr1) (cw_Layers_45 C ⟨Nat.le_of_ble_eq_true rfl, Nat.le_of_ble_eq_true rfl⟩) [] rfl rfl rfl (Nat.le_of_ble_eq_true rfl) d_Layers_stripes_8 (by decide) ?_
  obtain rfl := Option.some.inj h
  exact j_pret C hr d_Layers_stripes_11
def Layers_stripeOf (n : Nat) (L : LyS) (p1 : Int32) : Option Int32 :=
  (if 1 ≤ (L.1 2) then dz (L.1 2) (some (p1 / (L.1 2)))
  else some 0)
set_option maxRecDepth 100000 in
set_option maxHeartbeats 4000000 in
theorem c_Layers_stripeOf (l : Launch) (D : va_G) (cI cR cZ : ClassId) (a : (Nat → Nat)) (n : Nat) (L : LyS) (p1 : Int32) {res : Int32} (h : Layers_stripeOf n L p1 = some res) : Met l y_Layers_stripeOf (Cond.code y_Layers_stripeOf b_Layers_stripeOf 2 (some .int) :: BIG) rm_Layers_stripeOf (PcP [.ref (a 0), .int p1] D (tyG cI cR cZ) (wLy cI cR a n L)) (QcP res) 0 0 no := by
  refine met_P (by decide) (Nat.le_of_ble_eq_true rfl) (fun p e s m args below meth c C hr => ?_)
  have C : Cx p s m args meth c D (tyG cI cR cZ) b_Layers_stripeOf 2 "MaskLayers$Layers" := C
  have hr : meth.sig.returnType = some .int := hr
  show J p l e rm_Layers_stripeOf s m args below meth c D no (fun _ => True) 2 (MQ below (QcP res) args s 0 0 no) 0 0 (wLy cI cR a n L) [(0, .ref (a 0)), (1, .int p1)] [] 0
  unfold Layers_stripeOf at h
  refine j_aload_n C 0 d_Layers_stripeOf_0 rfl ?_
  refine gf_Layers_26 C 0 (v := .int (L.1 2)) rfl rfl d_Layers_stripeOf_1 ?_
  refine j_iconst C (v := 1) d_Layers_stripeOf_4 (by decide) ?_
  refine j_icmp_ge C 12 d_Layers_stripeOf_5 (by decide) (fun c2 => ?_) (fun c2 => ?_)
  · replace h := (if_pos c2).symm.trans h
    refine j_iload_n C 1 d_Layers_stripeOf_12 rfl ?_
    refine j_aload_n C 0 d_Layers_stripeOf_13 rfl ?_
    refine gf_Layers_26 C 0 (v := .int (L.1 2)) rfl rfl d_Layers_stripeOf_14 ?_
    obtain ⟨b1, h⟩ := dz_ok h
    refine j_idiv C d_Layers_stripeOf_17 b1 ?_
    obtain rfl := Option.some.inj h
    exact j_pret C hr d_Layers_stripeOf_18
  · replace h := (if_neg c2).symm.trans h
    refine j_iconst C (v := 0) d_Layers_stripeOf_8 (by decide) ?_
    refine j_goto C 18 d_Layers_stripeOf_9 (by decide) ?_
    obtain rfl := Option.some.inj h
    exact j_pret C hr d_Layers_stripeOf_18
def Layers_topOf (n : Nat) (L : LyS) (p1 : Int32) : Option Int32 :=
  some (p1 * (L.1 2))
set_option maxRecDepth 100000 in
set_option maxHeartbeats 4000000 in
theorem c_Layers_topOf (l : Launch) (D : va_G) (cI cR cZ : ClassId) (a : (Nat → Nat)) (n : Nat) (L : LyS) (p1 : Int32) {res : Int32} (h : Layers_topOf n L p1 = some res) : Met l y_Layers_topOf (Cond.code y_Layers_topOf b_Layers_topOf 2 (some .int) :: BIG) rm_Layers_topOf (PcP [.ref (a 0), .int p1] D (tyG cI cR cZ) (wLy cI cR a n L)) (QcP res) 0 0 no := by
  refine met_P (by decide) (Nat.le_of_ble_eq_true rfl) (fun p e s m args below meth c C hr => ?_)
  have C : Cx p s m args meth c D (tyG cI cR cZ) b_Layers_topOf 2 "MaskLayers$Layers" := C
  have hr : meth.sig.returnType = some .int := hr
  show J p l e rm_Layers_topOf s m args below meth c D no (fun _ => True) 2 (MQ below (QcP res) args s 0 0 no) 0 0 (wLy cI cR a n L) [(0, .ref (a 0)), (1, .int p1)] [] 0
  unfold Layers_topOf at h
  refine j_iload_n C 1 d_Layers_topOf_0 rfl ?_
  refine j_aload_n C 0 d_Layers_topOf_1 rfl ?_
  refine gf_Layers_26 C 0 (v := .int (L.1 2)) rfl rfl d_Layers_topOf_2 ?_
  refine j_imul C d_Layers_topOf_5 ?_
  obtain rfl := Option.some.inj h
  exact j_pret C hr d_Layers_topOf_6
def Layers_bottomOf (n : Nat) (L : LyS) (p1 : Int32) : Option Int32 :=
  some (mn ((p1 * (L.1 2)) + (L.1 2)) (L.1 1))
set_option maxRecDepth 100000 in
set_option maxHeartbeats 4000000 in
theorem c_Layers_bottomOf (l : Launch) (D : va_G) (cI cR cZ : ClassId) (a : (Nat → Nat)) (n : Nat) (L : LyS) (p1 : Int32) {res : Int32} (h : Layers_bottomOf n L p1 = some res) : Met l y_Layers_bottomOf (Cond.code y_Layers_bottomOf b_Layers_bottomOf 2 (some .int) :: BIG) rm_Layers_bottomOf (PcP [.ref (a 0), .int p1] D (tyG cI cR cZ) (wLy cI cR a n L)) (QcP res) 0 0 no := by
  refine met_P (by decide) (Nat.le_of_ble_eq_true rfl) (fun p e s m args below meth c C hr => ?_)
  have C : Cx p s m args meth c D (tyG cI cR cZ) b_Layers_bottomOf 2 "MaskLayers$Layers" := C
  have hr : meth.sig.returnType = some .int := hr
  show J p l e rm_Layers_bottomOf s m args below meth c D no (fun _ => True) 2 (MQ below (QcP res) args s 0 0 no) 0 0 (wLy cI cR a n L) [(0, .ref (a 0)), (1, .int p1)] [] 0
  unfold Layers_bottomOf at h
  refine j_iload_n C 1 d_Layers_bottomOf_0 rfl ?_
  refine j_aload_n C 0 d_Layers_bottomOf_1 rfl ?_
  refine gf_Layers_26 C 0 (v := .int (L.1 2)) rfl rfl d_Layers_bottomOf_2 ?_
  refine j_imul C d_Layers_bottomOf_5 ?_
  refine j_aload_n C 0 d_Layers_bottomOf_6 rfl ?_
  refine gf_Layers_26 C 0 (v := .int (L.1 2)) rfl rfl d_Layers_bottomOf_7 ?_
  refine j_iadd C d_Layers_bottomOf_10 ?_
  refine j_aload_n C 0 d_Layers_bottomOf_11 rfl ?_
  refine gf_Layers_42 C 0 (v := .int (L.1 1)) rfl rfl d_Layers_bottomOf_12 ?_
  refine j_mmin C mw_Layers_49 (Nat.le_of_ble_eq_true rfl) (Nat.le_of_ble_eq_true rfl) (by decide) d_Layers_bottomOf_15 ?_
  obtain rfl := Option.some.inj h
  exact j_pret C hr d_Layers_bottomOf_18
def Layers_rowsOf (n : Nat) (L : LyS) (p1 : Int32) (p2 : Int32) : Option Int32 :=
  gd p2 4 ((ML_parts (mn (L.1 2) ((L.1 1) - (p1 * (L.1 2)))) (L.2 5 p2.toNatClampNeg)).bind fun r2 =>
  some r2)
set_option maxRecDepth 100000 in
set_option maxHeartbeats 4000000 in
theorem c_Layers_rowsOf (l : Launch) (D : va_G) (cI cR cZ : ClassId) (a : (Nat → Nat)) (n : Nat) (L : LyS) (p1 : Int32) (p2 : Int32) {res : Int32} (h : Layers_rowsOf n L p1 p2 = some res) : Met l y_Layers_rowsOf (Cond.code y_Layers_rowsOf b_Layers_rowsOf 3 (some .int) :: BIG) rm_Layers_rowsOf (PcP [.ref (a 0), .int p1, .int p2] D (tyG cI cR cZ) (wLy cI cR a n L)) (QcP res) 0 0 no := by
  refine met_P (by decide) (Nat.le_of_ble_eq_true rfl) (fun p e s m args below meth c C hr => ?_)
  have C : Cx p s m args meth c D (tyG cI cR cZ) b_Layers_rowsOf 3 "MaskLayers$Layers" := C
  have hr : meth.sig.returnType = some .int := hr
  show J p l e rm_Layers_rowsOf s m args below meth c D no (fun _ => True) 3 (MQ below (QcP res) args s 0 0 no) 0 0 (wLy cI cR a n L) [(0, .ref (a 0)), (1, .int p1), (2, .int p2)] [] 0
  unfold Layers_rowsOf at h
  refine j_aload_n C 0 d_Layers_rowsOf_0 rfl ?_
  refine gf_Layers_26 C 0 (v := .int (L.1 2)) rfl rfl d_Layers_rowsOf_1 ?_
  refine j_aload_n C 0 d_Layers_rowsOf_4 rfl ?_
  refine gf_Layers_42 C 0 (v := .int (L.1 1)) rfl rfl d_Layers_rowsOf_5 ?_
  refine j_iload_n C 1 d_Layers_rowsOf_8 rfl ?_
  refine j_aload_n C 0 d_Layers_rowsOf_9 rfl ?_
  refine gf_Layers_26 C 0 (v := .int (L.1 2)) rfl rfl d_Layers_rowsOf_10 ?_
  refine j_imul C d_Layers_rowsOf_13 ?_
  refine j_isub C d_Layers_rowsOf_14 ?_
  refine j_mmin C mw_Layers_49 (Nat.le_of_ble_eq_true rfl) (Nat.le_of_ble_eq_true rfl) (by decide) d_Layers_rowsOf_15 ?_
  refine j_aload_n C 0 d_Layers_rowsOf_18 rfl ?_
  refine gf_Layers_20 C 0 (v := .ref (a 7)) rfl rfl d_Layers_rowsOf_19 ?_
  refine j_iload_n C 2 d_Layers_rowsOf_22 rfl ?_
  obtain ⟨b1, h⟩ := gd_ok h
  refine j_iald C (7) (t0 := 0) rfl rfl b1 d_Layers_rowsOf_23 ?_
  obtain ⟨r2, hr2, h⟩ := bd_ok h
  refine j_PSN C [.int (mn (L.1 2) ((L.1 1) - (p1 * (L.1 2)))), .int (L.2 5 p2.toNatClampNeg)] (c_ML_parts l D cI cR cZ (mn (L.1 2) ((L.1 1) - (p1 * (L.1 2)))) (L.2 5 p2.toNatClampNeg) hr2) (cw_Layers_45 C ⟨Nat.le_of_ble_eq_true rfl, Nat.le_of_ble_eq_true rfl⟩) [] rfl rfl rfl (Nat.le_of_ble_eq_true rfl) d_Layers_rowsOf_24 (by decide) ?_
  obtain rfl := Option.some.inj h
  exact j_pret C hr d_Layers_rowsOf_27
def Layers_startOf (n : Nat) (L : LyS) (p1 : Int32) : Option Int32 :=
  some ((p1 * (L.1 2)) * (L.1 0))
set_option maxRecDepth 100000 in
set_option maxHeartbeats 4000000 in
theorem c_Layers_startOf (l : Launch) (D : va_G) (cI cR cZ : ClassId) (a : (Nat → Nat)) (n : Nat) (L : LyS) (p1 : Int32) {res : Int32} (h : Layers_startOf n L p1 = some res) : Met l y_Layers_startOf (Cond.code y_Layers_startOf b_Layers_startOf 2 (some .int) :: BIG) rm_Layers_startOf (PcP [.ref (a 0), .int p1] D (tyG cI cR cZ) (wLy cI cR a n L)) (QcP res) 0 0 no := by
  refine met_P (by decide) (Nat.le_of_ble_eq_true rfl) (fun p e s m args below meth c C hr => ?_)
  have C : Cx p s m args meth c D (tyG cI cR cZ) b_Layers_startOf 2 "MaskLayers$Layers" := C
  have hr : meth.sig.returnType = some .int := hr
  show J p l e rm_Layers_startOf s m args below meth c D no (fun _ => True) 2 (MQ below (QcP res) args s 0 0 no) 0 0 (wLy cI cR a n L) [(0, .ref (a 0)), (1, .int p1)] [] 0
  unfold Layers_startOf at h
  refine j_iload_n C 1 d_Layers_startOf_0 rfl ?_
  refine j_aload_n C 0 d_Layers_startOf_1 rfl ?_
  refine gf_Layers_26 C 0 (v := .int (L.1 2)) rfl rfl d_Layers_startOf_2 ?_
  refine j_imul C d_Layers_startOf_5 ?_
  refine j_aload_n C 0 d_Layers_startOf_6 rfl ?_
  refine gf_Layers_39 C 0 (v := .int (L.1 0)) rfl rfl d_Layers_startOf_7 ?_
  refine j_imul C d_Layers_startOf_10 ?_
  obtain rfl := Option.some.inj h
  exact j_pret C hr d_Layers_startOf_11
def Layers_endOf (n : Nat) (L : LyS) (p1 : Int32) (p2 : Int32) : Option Int32 :=
  (Layers_startOf n L p1).bind fun r1 =>
  gd p2 4 ((Layers_rowsOf n L p1 p2).bind fun r3 =>
  some (r1 + ((L.2 6 p2.toNatClampNeg) * r3)))
set_option maxRecDepth 100000 in
set_option maxHeartbeats 4000000 in
theorem c_Layers_endOf (l : Launch) (D : va_G) (cI cR cZ : ClassId) (a : (Nat → Nat)) (n : Nat) (L : LyS) (p1 : Int32) (p2 : Int32) {res : Int32} (h : Layers_endOf n L p1 p2 = some res) : Met l y_Layers_endOf (Cond.code y_Layers_endOf b_Layers_endOf 3 (some .int) :: BIG) rm_Layers_endOf (PcP [.ref (a 0), .int p1, .int p2] D (tyG cI cR cZ) (wLy cI cR a n L)) (QcP res) 0 0 no := by
  refine met_P (by decide) (Nat.le_of_ble_eq_true rfl) (fun p e s m args below meth c C hr => ?_)
  have C : Cx p s m args meth c D (tyG cI cR cZ) b_Layers_endOf 3 "MaskLayers$Layers" := C
  have hr : meth.sig.returnType = some .int := hr
  show J p l e rm_Layers_endOf s m args below meth c D no (fun _ => True) 3 (MQ below (QcP res) args s 0 0 no) 0 0 (wLy cI cR a n L) [(0, .ref (a 0)), (1, .int p1), (2, .int p2)] [] 0
  unfold Layers_endOf at h
  refine j_aload_n C 0 d_Layers_endOf_0 rfl ?_
  refine j_iload_n C 1 d_Layers_endOf_1 rfl ?_
  obtain ⟨r1, hr1, h⟩ := bd_ok h
  refine j_PV C [.int p1] 0 rfl rfl (c_Layers_startOf l D cI cR cZ a n L p1 hr1) (cw_Layers_54 C ⟨Nat.le_of_ble_eq_true rfl, Nat.le_of_ble_eq_true rfl⟩) [0, 1, 2, 3, 4, 5, 6, 7, 8] rfl rfl rfl (Nat.le_of_ble_eq_true rfl) d_Layers_endOf_2 (by decide) ?_
  refine j_aload_n C 0 d_Layers_endOf_5 rfl ?_
  refine gf_Layers_23 C 0 (v := .ref (a 8)) rfl rfl d_Layers_endOf_6 ?_
  refine j_iload_n C 2 d_Layers_endOf_9 rfl ?_
  obtain ⟨b2, h⟩ := gd_ok h
  refine j_iald C (8) (t0 := 0) rfl rfl b2 d_Layers_endOf_10 ?_
  refine j_aload_n C 0 d_Layers_endOf_11 rfl ?_
  refine j_iload_n C 1 d_Layers_endOf_12 rfl ?_
  refine j_iload_n C 2 d_Layers_endOf_13 rfl ?_
  obtain ⟨r3, hr3, h⟩ := bd_ok h
  refine j_PV C [.int p1, .int p2] 0 rfl rfl (c_Layers_rowsOf l D cI cR cZ a n L p1 p2 hr3) (cw_Layers_58 C ⟨Nat.le_of_ble_eq_true rfl, Nat.le_of_ble_eq_true rfl⟩) [0, 1, 2, 3, 4, 5, 6, 7, 8] rfl rfl rfl (Nat.le_of_ble_eq_true rfl) d_Layers_endOf_14 (by decide) ?_
  refine j_imul C d_Layers_endOf_17 ?_
  refine j_iadd C d_Layers_endOf_18 ?_
  obtain rfl := Option.some.inj h
  exact j_pret C hr d_Layers_endOf_19
def Layers_placeOf (n : Nat) (L : LyS) (p1 : Int32) (p2 : Int32) (p3 : Int32) : Option Int32 :=
  gd p1 4 ((if 1 ≤ (L.2 5 p1.toNatClampNeg) then (Layers_stripeOf n L p3).bind fun r2 =>
  dz (L.2 5 p1.toNatClampNeg) (gd p1 4 (dz (L.2 5 p1.toNatClampNeg) (some ((((r2 * (L.1 2)) * (L.1 0)) + (((p3 - (r2 * (L.1 2))) / (L.2 5 p1.toNatClampNeg)) * (L.2 6 p1.toNatClampNeg))) + (p2 / (L.2 5 p1.toNatClampNeg))))))
  else some 0))
set_option maxRecDepth 100000 in
set_option maxHeartbeats 4000000 in
theorem c_Layers_placeOf (l : Launch) (D : va_G) (cI cR cZ : ClassId) (a : (Nat → Nat)) (n : Nat) (L : LyS) (p1 : Int32) (p2 : Int32) (p3 : Int32) {res : Int32} (h : Layers_placeOf n L p1 p2 p3 = some res) : Met l y_Layers_placeOf (Cond.code y_Layers_placeOf b_Layers_placeOf 6 (some .int) :: BIG) rm_Layers_placeOf (PcP [.ref (a 0), .int p1, .int p2, .int p3] D (tyG cI cR cZ) (wLy cI cR a n L)) (QcP res) 0 0 no := by
  refine met_P (by decide) (Nat.le_of_ble_eq_true rfl) (fun p e s m args below meth c C hr => ?_)
  have C : Cx p s m args meth c D (tyG cI cR cZ) b_Layers_placeOf 6 "MaskLayers$Layers" := C
  have hr : meth.sig.returnType = some .int := hr
  show J p l e rm_Layers_placeOf s m args below meth c D no (fun _ => True) 6 (MQ below (QcP res) args s 0 0 no) 0 0 (wLy cI cR a n L) [(0, .ref (a 0)), (1, .int p1), (2, .int p2), (3, .int p3)] [] 0
  unfold Layers_placeOf at h
  refine j_aload_n C 0 d_Layers_placeOf_0 rfl ?_
  refine gf_Layers_20 C 0 (v := .ref (a 7)) rfl rfl d_Layers_placeOf_1 ?_
  refine j_iload_n C 1 d_Layers_placeOf_4 rfl ?_
  obtain ⟨b1, h⟩ := gd_ok h
  refine j_iald C (7) (t0 := 0) rfl rfl b1 d_Layers_placeOf_5 ?_
  refine j_istore C [(4, .int (L.2 5 p1.toNatClampNeg)), (0, .ref (a 0)), (1, .int p1), (2, .int p2), (3, .int p3)] d_Layers_placeOf_6 (by decide) rfl ?_
  refine j_iload C 0 d_Layers_placeOf_8 rfl ?_
  refine j_iconst C (v := 1) d_Layers_placeOf_10 (by decide) ?_
  refine j_icmp_ge C 16 d_Layers_placeOf_11 (by decide) (fun c6 => ?_) (fun c6 => ?_)
  · replace h := (if_pos c6).symm.trans h
    refine j_aload_n C 1 d_Layers_placeOf_16 rfl ?_
    refine j_iload_n C 4 d_Layers_placeOf_17 rfl ?_
    obtain ⟨r2, hr2, h⟩ := bd_ok h
    refine j_PV C [.int p3] 0 rfl rfl (c_Layers_stripeOf l D cI cR cZ a n L p3 hr2) (cw_Layers_61 C ⟨Nat.le_of_ble_eq_true rfl, Nat.le_of_ble_eq_true rfl⟩) [0, 1, 2, 3, 4, 5, 6, 7, 8] rfl rfl rfl (Nat.le_of_ble_eq_true rfl) d_Layers_placeOf_18 (by decide) ?_
    refine j_aload_n C 1 d_Layers_placeOf_21 rfl ?_
    refine gf_Layers_26 C 0 (v := .int (L.1 2)) rfl rfl d_Layers_placeOf_22 ?_
    refine j_imul C d_Layers_placeOf_25 ?_
    refine j_istore C [(5, .int (r2 * (L.1 2))), (4, .int (L.2 5 p1.toNatClampNeg)), (0, .ref (a 0)), (1, .int p1), (2, .int p2), (3, .int p3)] d_Layers_placeOf_26 (by decide) rfl ?_
    refine j_iload C 0 d_Layers_placeOf_28 rfl ?_
    refine j_aload_n C 2 d_Layers_placeOf_30 rfl ?_
    refine gf_Layers_39 C 0 (v := .int (L.1 0)) rfl rfl d_Layers_placeOf_31 ?_
    refine j_imul C d_Layers_placeOf_34 ?_
    refine j_iload_n C 5 d_Layers_placeOf_35 rfl ?_
    refine j_iload C 0 d_Layers_placeOf_36 rfl ?_
    refine j_isub C d_Layers_placeOf_38 ?_
    refine j_iload C 1 d_Layers_placeOf_39 rfl ?_
    obtain ⟨b3, h⟩ := dz_ok h
    refine j_idiv C d_Layers_placeOf_41 b3 ?_
    refine j_aload_n C 2 d_Layers_placeOf_42 rfl ?_
    refine gf_Layers_23 C 0 (v := .ref (a 8)) rfl rfl d_Layers_placeOf_43 ?_
    refine j_iload_n C 3 d_Layers_placeOf_46 rfl ?_
    obtain ⟨b4, h⟩ := gd_ok h
    refine j_iald C (8) (t0 := 0) rfl rfl b4 d_Layers_placeOf_47 ?_
    refine j_imul C d_Layers_placeOf_48 ?_
    refine j_iadd C d_Layers_placeOf_49 ?_
    refine j_iload_n C 4 d_Layers_placeOf_50 rfl ?_
    refine j_iload C 1 d_Layers_placeOf_51 rfl ?_
    obtain ⟨b5, h⟩ := dz_ok h
    refine j_idiv C d_Layers_placeOf_53 b5 ?_
    refine j_iadd C d_Layers_placeOf_54 ?_
    obtain rfl := Option.some.inj h
    exact j_pret C hr d_Layers_placeOf_55
  · replace h := (if_neg c6).symm.trans h
    refine j_iconst C (v := 0) d_Layers_placeOf_14 (by decide) ?_
    obtain rfl := Option.some.inj h
    exact j_pret C hr d_Layers_placeOf_15
def Layers_valueAt (n : Nat) (L : LyS) (p1 : Int32) (p2 : Int32) (p3 : Int32) : Option Int32 :=
  (Layers_stripeOf n L p3).bind fun r1 =>
  (Layers_has n L r1 p1).bind fun r2 =>
  (if r2 = 0 then some ((-1))
  else gd p1 4 ((Layers_placeOf n L p1 p2 p3).bind fun r4 =>
  gd r4 n (some (L.2 p1.toNatClampNeg r4.toNatClampNeg))))
set_option maxRecDepth 100000 in
set_option maxHeartbeats 4000000 in
theorem c_Layers_valueAt (l : Launch) (D : va_G) (cI cR cZ : ClassId) (a : (Nat → Nat)) (n : Nat) (L : LyS) (p1 : Int32) (p2 : Int32) (p3 : Int32) {res : Int32} (h : Layers_valueAt n L p1 p2 p3 = some res) : Met l y_Layers_valueAt (Cond.code y_Layers_valueAt b_Layers_valueAt 4 (some .int) :: BIG) rm_Layers_valueAt (PcP [.ref (a 0), .int p1, .int p2, .int p3] D (tyG cI cR cZ) (wLy cI cR a n L)) (QcP res) 0 0 no := by
  refine met_P (by decide) (Nat.le_of_ble_eq_true rfl) (fun p e s m args below meth c C hr => ?_)
  have C : Cx p s m args meth c D (tyG cI cR cZ) b_Layers_valueAt 4 "MaskLayers$Layers" := C
  have hr : meth.sig.returnType = some .int := hr
  show J p l e rm_Layers_valueAt s m args below meth c D no (fun _ => True) 4 (MQ below (QcP res) args s 0 0 no) 0 0 (wLy cI cR a n L) [(0, .ref (a 0)), (1, .int p1), (2, .int p2), (3, .int p3)] [] 0
  unfold Layers_valueAt at h
  refine j_aload_n C 0 d_Layers_valueAt_0 rfl ?_
  refine j_aload_n C 0 d_Layers_valueAt_1 rfl ?_
  refine j_iload_n C 3 d_Layers_valueAt_2 rfl ?_
  obtain ⟨r1, hr1, h⟩ := bd_ok h
  refine j_PV C [.int p3] 0 rfl rfl (c_Layers_stripeOf l D cI cR cZ a n L p3 hr1) (cw_Layers_61 C ⟨Nat.le_of_ble_eq_true rfl, Nat.le_of_ble_eq_true rfl⟩) [0, 1, 2, 3, 4, 5, 6, 7, 8] rfl rfl rfl (Nat.le_of_ble_eq_true rfl) d_Layers_valueAt_3 (by decide) ?_
  refine j_iload_n C 1 d_Layers_valueAt_6 rfl ?_
  obtain ⟨r2, hr2, h⟩ := bd_ok h
  refine j_PV C [.int r1, .int p1] 0 rfl rfl (c_Layers_has l D cI cR cZ a n L r1 p1 hr2) (cw_Layers_64 C ⟨Nat.le_of_ble_eq_true rfl, Nat.le_of_ble_eq_true rfl⟩) [0, 1, 2, 3, 4, 5, 6, 7, 8] rfl rfl rfl (Nat.le_of_ble_eq_true rfl) d_Layers_valueAt_7 (by decide) ?_
  refine j_if_eq C 30 d_Layers_valueAt_10 (by decide) (fun c6 => ?_) (fun c6 => ?_)
  · replace h := (if_pos c6).symm.trans h
    refine j_iconst C (v := (-1)) d_Layers_valueAt_30 (by decide) ?_
    obtain rfl := Option.some.inj h
    exact j_pret C hr d_Layers_valueAt_31
  · replace h := (if_neg c6).symm.trans h
    refine j_aload_n C 0 d_Layers_valueAt_13 rfl ?_
    refine gf_Layers_11 C 0 (v := .ref (a 1)) rfl rfl d_Layers_valueAt_14 ?_
    refine j_iload_n C 1 d_Layers_valueAt_17 rfl ?_
    obtain ⟨b3, h⟩ := gd_ok h
    refine j_aald C 1 (t0 := 2) rfl rfl b3 d_Layers_valueAt_18 ?_
    refine j_aload_n C 0 d_Layers_valueAt_19 rfl ?_
    refine j_iload_n C 1 d_Layers_valueAt_20 rfl ?_
    refine j_iload_n C 2 d_Layers_valueAt_21 rfl ?_
    refine j_iload_n C 3 d_Layers_valueAt_22 rfl ?_
    obtain ⟨r4, hr4, h⟩ := bd_ok h
    refine j_PV C [.int p1, .int p2, .int p3] 0 rfl rfl (c_Layers_placeOf l D cI cR cZ a n L p1 p2 p3 hr4) (cw_Layers_68 C ⟨Nat.le_of_ble_eq_true rfl, Nat.le_of_ble_eq_true rfl⟩) [0, 1, 2, 3, 4, 5, 6, 7, 8] rfl rfl rfl (Nat.le_of_ble_eq_true rfl) d_Layers_valueAt_23 (by decide) ?_
    obtain ⟨b5, h⟩ := gd_ok h
    refine j_iald C (2 + p1.toNatClampNeg) (t0 := 0) (co_4 (P := fun k => (wLy cI cR a n L)[2 + k]? = some (a (2 + k), .inl (cI, n, .inl (L.2 k)))) rfl rfl rfl rfl (in_lt b3)) rfl b5 d_Layers_valueAt_26 ?_
    refine j_goto C 31 d_Layers_valueAt_27 (by decide) ?_
    obtain rfl := Option.some.inj h
    exact j_pret C hr d_Layers_valueAt_31
def Layers_joinedAt_b17 (n : Nat) (L : LyS) (v1 : Int32) (v2 : Int32) (s0 : Int32) : Option Int32 :=
  (Layers_valueAt n L s0 v1 v2).bind fun r2 =>
  (if r2 = ((-1)) then some 0
  else some r2)
def Layers_joinedAt (n : Nat) (L : LyS) (p1 : Int32) (p2 : Int32) : Option Int32 :=
  (Layers_valueAt n L 1 p1 p2).bind fun r1 =>
  (if r1 = 1 then Layers_joinedAt_b17 n L p1 p2 2
  else Layers_joinedAt_b17 n L p1 p2 0)
set_option maxRecDepth 100000 in
set_option maxHeartbeats 4000000 in
theorem t_Layers_joinedAt_b17 {p : Program} {l : Launch} {e : Env} {s : State} {m : MethodId} {args : Array Value} {below : List Frame} {meth : Method} {c : Code} {D : va_G} {cI cR cZ : ClassId} (C : Cx p s m args meth c D (tyG cI cR cZ) b_Layers_joinedAt 4 "MaskLayers$Layers") (hr : meth.sig.returnType = some .int) {a : (Nat → Nat)} {n : Nat} {L : LyS} {v1 : Int32} {v2 : Int32} {s0 : Int32} {res : Int32} (h : Layers_joinedAt_b17 n L v1 v2 s0 = some res) : J p l e rm_Layers_joinedAt s m args below meth c D no (fun _ => True) 4 (MQ below (QcP res) args s 0 0 no) 0 0 (wLy cI cR a n L) [(1, .int v1), (2, .int v2)] [.int s0, .ref (a 0)] 17 := by
  unfold Layers_joinedAt_b17 at h
  refine j_iload_n C 0 d_Layers_joinedAt_17 rfl ?_
  refine j_iload_n C 1 d_Layers_joinedAt_18 rfl ?_
  obtain ⟨r2, hr2, h⟩ := bd_ok h
  refine j_PV C [.int s0, .int v1, .int v2] 0 rfl rfl (c_Layers_valueAt l D cI cR cZ a n L s0 v1 v2 hr2) (cw_Layers_72 C ⟨Nat.le_of_ble_eq_true rfl, Nat.le_of_ble_eq_true rfl⟩) [0, 1, 2, 3, 4, 5, 6, 7, 8] rfl rfl rfl (Nat.le_of_ble_eq_true rfl) d_Layers_joinedAt_19 (by decide) ?_
  refine j_istore_n C [(3, .int r2), (1, .int v1), (2, .int v2)] d_Layers_joinedAt_22 (by decide) rfl ?_
  refine j_iload_n C 0 d_Layers_joinedAt_23 rfl ?_
  refine j_iconst C (v := (-1)) d_Layers_joinedAt_24 (by decide) ?_
  refine j_icmp_ne C 32 d_Layers_joinedAt_25 (by decide) (fun c3 => ?_) (fun c3 => ?_)
  · replace h := (if_neg c3).symm.trans h
    refine j_iload_n C 0 d_Layers_joinedAt_32 rfl ?_
    obtain rfl := Option.some.inj h
    exact j_pret C hr d_Layers_joinedAt_33
  · replace h := (if_pos c3).symm.trans h
    refine j_iconst C (v := 0) d_Layers_joinedAt_28 (by decide) ?_
    refine j_goto C 33 d_Layers_joinedAt_29 (by decide) ?_
    obtain rfl := Option.some.inj h
    exact j_pret C hr d_Layers_joinedAt_33
set_option maxRecDepth 100000 in
set_option maxHeartbeats 4000000 in
theorem c_Layers_joinedAt (l : Launch) (D : va_G) (cI cR cZ : ClassId) (a : (Nat → Nat)) (n : Nat) (L : LyS) (p1 : Int32) (p2 : Int32) {res : Int32} (h : Layers_joinedAt n L p1 p2 = some res) : Met l y_Layers_joinedAt (Cond.code y_Layers_joinedAt b_Layers_joinedAt 4 (some .int) :: BIG) rm_Layers_joinedAt (PcP [.ref (a 0), .int p1, .int p2] D (tyG cI cR cZ) (wLy cI cR a n L)) (QcP res) 0 0 no := by
  refine met_P (by decide) (Nat.le_of_ble_eq_true rfl) (fun p e s m args below meth c C hr => ?_)
  have C : Cx p s m args meth c D (tyG cI cR cZ) b_Layers_joinedAt 4 "MaskLayers$Layers" := C
  have hr : meth.sig.returnType = some .int := hr
  show J p l e rm_Layers_joinedAt s m args below meth c D no (fun _ => True) 4 (MQ below (QcP res) args s 0 0 no) 0 0 (wLy cI cR a n L) [(0, .ref (a 0)), (1, .int p1), (2, .int p2)] [] 0
  unfold Layers_joinedAt at h
  refine j_aload_n C 0 d_Layers_joinedAt_0 rfl ?_
  refine j_aload_n C 0 d_Layers_joinedAt_1 rfl ?_
  refine j_iconst C (v := 1) d_Layers_joinedAt_2 (by decide) ?_
  refine j_iload_n C 1 d_Layers_joinedAt_3 rfl ?_
  refine j_iload_n C 2 d_Layers_joinedAt_4 rfl ?_
  obtain ⟨r1, hr1, h⟩ := bd_ok h
  refine j_PV C [.int 1, .int p1, .int p2] 0 rfl rfl (c_Layers_valueAt l D cI cR cZ a n L 1 p1 p2 hr1) (cw_Layers_72 C ⟨Nat.le_of_ble_eq_true rfl, Nat.le_of_ble_eq_true rfl⟩) [0, 1, 2, 3, 4, 5, 6, 7, 8] rfl rfl rfl (Nat.le_of_ble_eq_true rfl) d_Layers_joinedAt_5 (by decide) ?_
  refine j_iconst C (v := 1) d_Layers_joinedAt_8 (by decide) ?_
  refine j_icmp_ne C 16 d_Layers_joinedAt_9 (by decide) (fun c4 => ?_) (fun c4 => ?_)
  · replace h := (if_neg c4).symm.trans h
    refine j_iconst C (v := 0) d_Layers_joinedAt_16 (by decide) ?_
    refine j_sub [1, 2] rfl ?_
    exact t_Layers_joinedAt_b17 C hr h
  · replace h := (if_pos c4).symm.trans h
    refine j_iconst C (v := 2) d_Layers_joinedAt_12 (by decide) ?_
    refine j_goto C 17 d_Layers_joinedAt_13 (by decide) ?_
    refine j_sub [1, 2] rfl ?_
    exact t_Layers_joinedAt_b17 C hr h
def Layers_exactAt (n : Nat) (L : LyS) (p1 : Int32) (p2 : Int32) : Option Int32 :=
  (Layers_valueAt n L 3 p1 p2).bind fun r1 =>
  (if r1 = ((-1)) then (Layers_joinedAt n L p1 p2).bind fun r4 =>
  some r4
  else (Layers_joinedAt n L p1 p2).bind fun r2 =>
  (ML_sum r2 r1).bind fun r3 =>
  some r3)
set_option maxRecDepth 100000 in
set_option maxHeartbeats 4000000 in
theorem c_Layers_exactAt (l : Launch) (D : va_G) (cI cR cZ : ClassId) (a : (Nat → Nat)) (n : Nat) (L : LyS) (p1 : Int32) (p2 : Int32) {res : Int32} (h : Layers_exactAt n L p1 p2 = some res) : Met l y_Layers_exactAt (Cond.code y_Layers_exactAt b_Layers_exactAt 4 (some .int) :: BIG) rm_Layers_exactAt (PcP [.ref (a 0), .int p1, .int p2] D (tyG cI cR cZ) (wLy cI cR a n L)) (QcP res) 0 0 no := by
  refine met_P (by decide) (Nat.le_of_ble_eq_true rfl) (fun p e s m args below meth c C hr => ?_)
  have C : Cx p s m args meth c D (tyG cI cR cZ) b_Layers_exactAt 4 "MaskLayers$Layers" := C
  have hr : meth.sig.returnType = some .int := hr
  show J p l e rm_Layers_exactAt s m args below meth c D no (fun _ => True) 4 (MQ below (QcP res) args s 0 0 no) 0 0 (wLy cI cR a n L) [(0, .ref (a 0)), (1, .int p1), (2, .int p2)] [] 0
  unfold Layers_exactAt at h
  refine j_aload_n C 0 d_Layers_exactAt_0 rfl ?_
  refine j_iconst C (v := 3) d_Layers_exactAt_1 (by decide) ?_
  refine j_iload_n C 1 d_Layers_exactAt_2 rfl ?_
  refine j_iload_n C 2 d_Layers_exactAt_3 rfl ?_
  obtain ⟨r1, hr1, h⟩ := bd_ok h
  refine j_PV C [.int 3, .int p1, .int p2] 0 rfl rfl (c_Layers_valueAt l D cI cR cZ a n L 3 p1 p2 hr1) (cw_Layers_72 C ⟨Nat.le_of_ble_eq_true rfl, Nat.le_of_ble_eq_true rfl⟩) [0, 1, 2, 3, 4, 5, 6, 7, 8] rfl rfl rfl (Nat.le_of_ble_eq_true rfl) d_Layers_exactAt_4 (by decide) ?_
  refine j_istore_n C [(3, .int r1), (0, .ref (a 0)), (1, .int p1), (2, .int p2)] d_Layers_exactAt_7 (by decide) rfl ?_
  refine j_iload_n C 0 d_Layers_exactAt_8 rfl ?_
  refine j_iconst C (v := (-1)) d_Layers_exactAt_9 (by decide) ?_
  refine j_icmp_ne C 22 d_Layers_exactAt_10 (by decide) (fun c5 => ?_) (fun c5 => ?_)
  · replace h := (if_neg c5).symm.trans h
    refine j_aload_n C 1 d_Layers_exactAt_22 rfl ?_
    refine j_iload_n C 2 d_Layers_exactAt_23 rfl ?_
    refine j_iload_n C 3 d_Layers_exactAt_24 rfl ?_
    obtain ⟨r2, hr2, h⟩ := bd_ok h
    refine j_PV C [.int p1, .int p2] 0 rfl rfl (c_Layers_joinedAt l D cI cR cZ a n L p1 p2 hr2) (cw_Layers_75 C ⟨Nat.le_of_ble_eq_true rfl, Nat.le_of_ble_eq_true rfl⟩) [0, 1, 2, 3, 4, 5, 6, 7, 8] rfl rfl rfl (Nat.le_of_ble_eq_true rfl) d_Layers_exactAt_25 (by decide) ?_
    refine j_iload_n C 0 d_Layers_exactAt_28 rfl ?_
    obtain ⟨r3, hr3, h⟩ := bd_ok h
    refine j_PSN C [.int r2, .int r1] (c_ML_sum l D cI cR cZ r2 r1 hr3) (cw_Layers_78 C ⟨Nat.le_of_ble_eq_true rfl, Nat.le_of_ble_eq_true rfl⟩) [] rfl rfl rfl (Nat.le_of_ble_eq_true rfl) d_Layers_exactAt_29 (by decide) ?_
    obtain rfl := Option.some.inj h
    exact j_pret C hr d_Layers_exactAt_32
  · replace h := (if_pos c5).symm.trans h
    refine j_aload_n C 1 d_Layers_exactAt_13 rfl ?_
    refine j_iload_n C 2 d_Layers_exactAt_14 rfl ?_
    refine j_iload_n C 3 d_Layers_exactAt_15 rfl ?_
    obtain ⟨r4, hr4, h⟩ := bd_ok h
    refine j_PV C [.int p1, .int p2] 0 rfl rfl (c_Layers_joinedAt l D cI cR cZ a n L p1 p2 hr4) (cw_Layers_75 C ⟨Nat.le_of_ble_eq_true rfl, Nat.le_of_ble_eq_true rfl⟩) [0, 1, 2, 3, 4, 5, 6, 7, 8] rfl rfl rfl (Nat.le_of_ble_eq_true rfl) d_Layers_exactAt_16 (by decide) ?_
    refine j_goto C 32 d_Layers_exactAt_19 (by decide) ?_
    obtain rfl := Option.some.inj h
    exact j_pret C hr d_Layers_exactAt_32
end
section
def Arrays_fill_l5 (n : Nat) (v1 : Int32) (v3 : Int32) : Nat → Int32 → (Nat → Int32) → Option (Nat × (Nat → Int32))
  | 0, _, _ => none
  | k + 1, v2, v =>
  (if v3 ≤ v2 then some (0, v)
  else gd v2 n (Arrays_fill_l5 n v1 v3 k (v2 + 1) (upd v v2.toNatClampNeg v1)))
def Arrays_fill (fu : Nat) (n : Nat) (v : (Nat → Int32)) (p2 : Int32) : Option ((Nat → Int32)) :=
  (Arrays_fill_l5 n p2 (nI n) fu 0 v).bind fun r3 =>
  some (r3.2)
set_option maxRecDepth 100000 in
set_option maxHeartbeats 4000000 in
theorem t_Arrays_fill_l5 {p : Program} {l : Launch} {e : Env} {s : State} {m : MethodId} {args : Array Value} {below : List Frame} {meth : Method} {c : Code} {D : va_G} {cI cR cZ : ClassId} {A : Nat → Prop} {Q : State → Prop} (C : Cx p s m args meth c D (tyG cI cR cZ) b_Arrays_fill 4 "java/util/Arrays") (hA : ∀ q : Nat, s.heap.size ≤ q → A q) {g : Nat} {n : Nat} {v1 : Int32} {v3 : Int32} {out : Nat × (Nat → Int32)} : ∀ (k : Nat) (v2 : Int32) (v : (Nat → Int32)), Arrays_fill_l5 n v1 v3 k v2 v = some out → (out.1 = 0 → J p l e rm_Arrays_fill s m args below meth c D A (va_D A) 4 Q 0 0 ([(g, .inl (cI, n, .inl out.2))]) [] [] 20) → J p l e rm_Arrays_fill s m args below meth c D A (va_D A) 4 Q 0 0 ([(g, .inl (cI, n, .inl v))]) [(0, .ref g), (1, .int v1), (2, .int v2), (3, .int v3)] [] 5 := by
  intro k
  induction k with
  | zero => intro v2 v h; cases (show none = some out from h)
  | succ k ih =>
    intro v2 v h x0
    rw [Arrays_fill_l5] at h
    refine j_iload_n C 2 d_Arrays_fill_5 rfl ?_
    refine j_iload_n C 3 d_Arrays_fill_6 rfl ?_
    refine j_icmp_ge C 20 d_Arrays_fill_7 (by decide) (fun c2 => ?_) (fun c2 => ?_)
    · replace h := (if_pos c2).symm.trans h
      obtain rfl := Option.some.inj h
      refine j_sub [] rfl ?_
      exact x0 rfl
    · replace h := (if_neg c2).symm.trans h
      refine j_aload_n C 0 d_Arrays_fill_10 rfl ?_
      refine j_iload_n C 2 d_Arrays_fill_11 rfl ?_
      refine j_iload_n C 1 d_Arrays_fill_12 rfl ?_
      obtain ⟨b1, h⟩ := gd_ok h
      refine j_iast C (0) ([(g, .inl (cI, n, .inl (upd v v2.toNatClampNeg v1)))]) (t0 := 0) rfl rfl rfl b1 d_Arrays_fill_13 ?_
      refine j_iinc C [(2, .int (v2 + 1)), (0, .ref g), (1, .int v1), (3, .int v3)] 2 (v2 + 1) d_Arrays_fill_14 rfl rfl (by decide) rfl ?_
      refine j_goto C 5 d_Arrays_fill_17 (by decide) ?_
      refine j_sub [1, 2, 0, 3] rfl ?_
      exact ih (v2 + 1) (upd v v2.toNatClampNeg v1) h x0
set_option maxRecDepth 100000 in
set_option maxHeartbeats 4000000 in
theorem c_Arrays_fill (l : Launch) (D : va_G) (cI cR cZ : ClassId) (fu : Nat) (g : Nat) (n : Nat) (v : (Nat → Int32)) (p2 : Int32) {res : ((Nat → Int32))} (h : Arrays_fill fu n v p2 = some res) (sz : Nat) : Met l y_Arrays_fill (Cond.code y_Arrays_fill b_Arrays_fill 4 none :: BIG) rm_Arrays_fill (PcI [.ref g, .int p2] D (tyG cI cR cZ) ([(g, .inl (cI, n, .inl v))]) sz) (QcV D (fun _ : Nat => [(g, .inl (cI, n, .inl res))]) (va_A ([(g, .inl (cI, n, .inl v))]) sz)) 0 0 (va_A ([(g, .inl (cI, n, .inl v))]) sz) := by
  refine met_V (by decide) (Nat.le_of_ble_eq_true rfl) (fun p e s m args below meth c A hA C hr => ?_)
  have C : Cx p s m args meth c D (tyG cI cR cZ) b_Arrays_fill 4 "java/util/Arrays" := C
  have hr : meth.sig.returnType = none := hr
  show J p l e rm_Arrays_fill s m args below meth c D A (va_D A) 4 (MQ below (QcV D (fun _ : Nat => [(g, .inl (cI, n, .inl res))]) A) args s 0 0 A) 0 0 ([(g, .inl (cI, n, .inl v))]) [(0, .ref g), (1, .int p2)] [] 0
  unfold Arrays_fill at h
  refine j_iconst C (v := 0) d_Arrays_fill_0 (by decide) ?_
  refine j_istore_n C [(2, .int 0), (0, .ref g), (1, .int p2)] d_Arrays_fill_1 (by decide) rfl ?_
  refine j_aload_n C 1 d_Arrays_fill_2 rfl ?_
  refine j_alen C (0) (t0 := 0) (v := nI n) rfl rfl rfl d_Arrays_fill_3 ?_
  refine j_istore_n C [(3, .int (nI n)), (2, .int 0), (0, .ref g), (1, .int p2)] d_Arrays_fill_4 (by decide) rfl ?_
  obtain ⟨r3, hr3, h⟩ := bd_ok h
  refine j_sub [2, 3, 1, 0] rfl ?_
  refine t_Arrays_fill_l5 C hA fu 0 v hr3 (fun e4 => ?_)
  · obtain rfl := Option.some.inj h
    exact j_vret C hr d_Arrays_fill_20 0 rfl
def Layers_forget (fu : Nat) (n : Nat) (L : LyS) : Option (LyS) :=
  (Arrays_fill fu 24 (L.2 4) 0).bind fun r1 =>
  some (Lf (La L 4 r1) 3 0)
set_option maxRecDepth 100000 in
set_option maxHeartbeats 4000000 in
theorem c_Layers_forget (l : Launch) (D : va_G) (cI cR cZ : ClassId) (fu : Nat) (a : (Nat → Nat)) (n : Nat) (L : LyS) {res : (LyS)} (h : Layers_forget fu n L = some res) (sz : Nat) : Met l y_Layers_forget (Cond.code y_Layers_forget b_Layers_forget 1 none :: BIG) rm_Layers_forget (PcI [.ref (a 0)] D (tyG cI cR cZ) (wLy cI cR a n L) sz) (QcV D (fun _ : Nat => wLy cI cR a n res) (va_A (wLy cI cR a n L) sz)) 0 0 (va_A (wLy cI cR a n L) sz) := by
  refine met_V (by decide) (Nat.le_of_ble_eq_true rfl) (fun p e s m args below meth c A hA C hr => ?_)
  have C : Cx p s m args meth c D (tyG cI cR cZ) b_Layers_forget 1 "MaskLayers$Layers" := C
  have hr : meth.sig.returnType = none := hr
  show J p l e rm_Layers_forget s m args below meth c D A (va_D A) 1 (MQ below (QcV D (fun _ : Nat => wLy cI cR a n res) A) args s 0 0 A) 0 0 (wLy cI cR a n L) [(0, .ref (a 0))] [] 0
  unfold Layers_forget at h
  refine j_aload_n C 0 d_Layers_forget_0 rfl ?_
  refine gf_Layers_16 C 0 (v := .ref (a 6)) rfl rfl d_Layers_forget_1 ?_
  refine j_iconst C (v := 0) d_Layers_forget_4 (by decide) ?_
  obtain ⟨r1, hr1, h⟩ := bd_ok h
  refine j_VS C [.ref (a 6), .int 0] hA (c_Arrays_fill l D cI cR cZ fu (a 6) 24 (L.2 4) 0 hr1) (cw_Layers_30 C ⟨Nat.le_of_ble_eq_true rfl, Nat.le_of_ble_eq_true rfl⟩) [6] [0, 1, 2, 3, 4, 5, 7, 8] rfl rfl (by decide) (by decide) (by decide) rfl rfl (Nat.le_of_ble_eq_true rfl) d_Layers_forget_5 (by decide) (fun _ => ?_)
  refine j_perm [0, 1, 2, 3, 4, 5, 8, 6, 7] (ws' := wLy cI cR a n (La L 4 r1)) rfl (by decide) ?_
  refine j_aload_n C 0 d_Layers_forget_8 rfl ?_
  refine j_iconst C (v := 0) d_Layers_forget_9 (by decide) ?_
  refine pf_Layers_36 C 0 (wLy cI cR a n (Lf (La L 4 r1) 3 0)) rfl rfl rfl d_Layers_forget_10 ?_
  obtain rfl := Option.some.inj h
  exact j_vret C hr d_Layers_forget_13 0 rfl
def Layers_shape_l34 (n : Nat) (v1 : Int32) : Nat → Int32 → LyS → Option (Nat × LyS)
  | 0, _, _ => none
  | k + 1, v6, L =>
  (if 3 < v6 then some (0, L)
  else gd v6 4 ((ML_parts v1 (L.2 5 v6.toNatClampNeg)).bind fun r4 =>
  gd v6 4 (Layers_shape_l34 n v1 k (v6 + 1) (Ls L 6 v6.toNatClampNeg r4))))
def Layers_shape (fu : Nat) (n : Nat) (L : LyS) (p1 : Int32) (p2 : Int32) (p3 : Int32) (p4 : Int32) (p5 : Int32) : Option (LyS) :=
  gd 2 4 (gd 0 4 ((Layers_shape_l34 n p1 fu 0 (Ls (Ls (Lf (Lf (Lf L 0 p1) 1 p2) 2 p3) 5 ((2 : Int32).toNatClampNeg) p4) 5 ((0 : Int32).toNatClampNeg) p5)).bind fun r7 =>
  some (r7.2)))
set_option maxRecDepth 100000 in
set_option maxHeartbeats 4000000 in
theorem t_Layers_shape_l34 {p : Program} {l : Launch} {e : Env} {s : State} {m : MethodId} {args : Array Value} {below : List Frame} {meth : Method} {c : Code} {D : va_G} {cI cR cZ : ClassId} {A : Nat → Prop} {Q : State → Prop} (C : Cx p s m args meth c D (tyG cI cR cZ) b_Layers_shape 7 "MaskLayers$Layers") (hA : ∀ q : Nat, s.heap.size ≤ q → A q) {a : (Nat → Nat)} {n : Nat} {v1 : Int32} {out : Nat × LyS} : ∀ (k : Nat) (v6 : Int32) (L : LyS), Layers_shape_l34 n v1 k v6 L = some out → (out.1 = 0 → J p l e rm_Layers_shape s m args below meth c D A (va_D A) 7 Q 0 0 (wLy cI cR a n out.2) [] [] 64) → J p l e rm_Layers_shape s m args below meth c D A (va_D A) 7 Q 0 0 (wLy cI cR a n L) [(0, .ref (a 0)), (1, .int v1), (6, .int v6)] [] 34 := by
  intro k
  induction k with
  | zero => intro v6 L h; cases (show none = some out from h)
  | succ k ih =>
    intro v6 L h x0
    rw [Layers_shape_l34] at h
    refine j_iload C 2 d_Layers_shape_34 rfl ?_
    refine j_iconst C (v := 3) d_Layers_shape_36 (by decide) ?_
    refine j_icmp_gt C 64 d_Layers_shape_37 (by decide) (fun c6 => ?_) (fun c6 => ?_)
    · replace h := (if_pos c6).symm.trans h
      obtain rfl := Option.some.inj h
      refine j_sub [] rfl ?_
      exact x0 rfl
    · replace h := (if_neg c6).symm.trans h
      refine j_aload_n C 0 d_Layers_shape_40 rfl ?_
      refine gf_Layers_23 C 0 (v := .ref (a 8)) rfl rfl d_Layers_shape_41 ?_
      refine j_iload C 2 d_Layers_shape_44 rfl ?_
      refine j_iload_n C 1 d_Layers_shape_46 rfl ?_
      refine j_aload_n C 0 d_Layers_shape_47 rfl ?_
      refine gf_Layers_20 C 0 (v := .ref (a 7)) rfl rfl d_Layers_shape_48 ?_
      refine j_iload C 2 d_Layers_shape_51 rfl ?_
      obtain ⟨b3, h⟩ := gd_ok h
      refine j_iald C (7) (t0 := 0) rfl rfl b3 d_Layers_shape_53 ?_
      obtain ⟨r4, hr4, h⟩ := bd_ok h
      refine j_PSN C [.int v1, .int (L.2 5 v6.toNatClampNeg)] (c_ML_parts l D cI cR cZ v1 (L.2 5 v6.toNatClampNeg) hr4) (cw_Layers_45 C ⟨Nat.le_of_ble_eq_true rfl, Nat.le_of_ble_eq_true rfl⟩) [] rfl rfl rfl (Nat.le_of_ble_eq_true rfl) d_Layers_shape_54 (by decide) ?_
      obtain ⟨b5, h⟩ := gd_ok h
      refine j_iast C (8) (wLy cI cR a n (Ls L 6 v6.toNatClampNeg r4)) (t0 := 0) rfl rfl rfl b5 d_Layers_shape_57 ?_
      refine j_iinc C [(6, .int (v6 + 1)), (0, .ref (a 0)), (1, .int v1)] 2 (v6 + 1) d_Layers_shape_58 rfl rfl (by decide) rfl ?_
      refine j_goto C 34 d_Layers_shape_61 (by decide) ?_
      refine j_sub [1, 2, 0] rfl ?_
      exact ih (v6 + 1) (Ls L 6 v6.toNatClampNeg r4) h x0
set_option maxRecDepth 100000 in
set_option maxHeartbeats 4000000 in
theorem c_Layers_shape (l : Launch) (D : va_G) (cI cR cZ : ClassId) (fu : Nat) (a : (Nat → Nat)) (n : Nat) (L : LyS) (p1 : Int32) (p2 : Int32) (p3 : Int32) (p4 : Int32) (p5 : Int32) {res : (LyS)} (h : Layers_shape fu n L p1 p2 p3 p4 p5 = some res) (sz : Nat) : Met l y_Layers_shape (Cond.code y_Layers_shape b_Layers_shape 7 none :: BIG) rm_Layers_shape (PcI [.ref (a 0), .int p1, .int p2, .int p3, .int p4, .int p5] D (tyG cI cR cZ) (wLy cI cR a n L) sz) (QcV D (fun _ : Nat => wLy cI cR a n res) (va_A (wLy cI cR a n L) sz)) 0 0 (va_A (wLy cI cR a n L) sz) := by
  refine met_V (by decide) (Nat.le_of_ble_eq_true rfl) (fun p e s m args below meth c A hA C hr => ?_)
  have C : Cx p s m args meth c D (tyG cI cR cZ) b_Layers_shape 7 "MaskLayers$Layers" := C
  have hr : meth.sig.returnType = none := hr
  show J p l e rm_Layers_shape s m args below meth c D A (va_D A) 7 (MQ below (QcV D (fun _ : Nat => wLy cI cR a n res) A) args s 0 0 A) 0 0 (wLy cI cR a n L) [(0, .ref (a 0)), (1, .int p1), (2, .int p2), (3, .int p3), (4, .int p4), (5, .int p5)] [] 0
  unfold Layers_shape at h
  refine j_aload_n C 0 d_Layers_shape_0 rfl ?_
  refine j_iload_n C 1 d_Layers_shape_1 rfl ?_
  refine pf_Layers_39 C 0 (wLy cI cR a n (Lf L 0 p1)) rfl rfl rfl d_Layers_shape_2 ?_
  refine j_aload_n C 0 d_Layers_shape_5 rfl ?_
  refine j_iload_n C 2 d_Layers_shape_6 rfl ?_
  refine pf_Layers_42 C 0 (wLy cI cR a n (Lf (Lf L 0 p1) 1 p2)) rfl rfl rfl d_Layers_shape_7 ?_
  refine j_aload_n C 0 d_Layers_shape_10 rfl ?_
  refine j_iload_n C 3 d_Layers_shape_11 rfl ?_
  refine pf_Layers_26 C 0 (wLy cI cR a n (Lf (Lf (Lf L 0 p1) 1 p2) 2 p3)) rfl rfl rfl d_Layers_shape_12 ?_
  refine j_aload_n C 0 d_Layers_shape_15 rfl ?_
  refine gf_Layers_20 C 0 (v := .ref (a 7)) rfl rfl d_Layers_shape_16 ?_
  refine j_iconst C (v := 2) d_Layers_shape_19 (by decide) ?_
  refine j_iload C 4 d_Layers_shape_20 rfl ?_
  obtain ⟨b1, h⟩ := gd_ok h
  refine j_iast C (7) (wLy cI cR a n (Ls (Lf (Lf (Lf L 0 p1) 1 p2) 2 p3) 5 ((2 : Int32).toNatClampNeg) p4)) (t0 := 0) rfl rfl rfl b1 d_Layers_shape_22 ?_
  refine j_aload_n C 0 d_Layers_shape_23 rfl ?_
  refine gf_Layers_20 C 0 (v := .ref (a 7)) rfl rfl d_Layers_shape_24 ?_
  refine j_iconst C (v := 0) d_Layers_shape_27 (by decide) ?_
  refine j_iload C 5 d_Layers_shape_28 rfl ?_
  obtain ⟨b2, h⟩ := gd_ok h
  refine j_iast C (7) (wLy cI cR a n (Ls (Ls (Lf (Lf (Lf L 0 p1) 1 p2) 2 p3) 5 ((2 : Int32).toNatClampNeg) p4) 5 ((0 : Int32).toNatClampNeg) p5)) (t0 := 0) rfl rfl rfl b2 d_Layers_shape_30 ?_
  refine j_iconst C (v := 0) d_Layers_shape_31 (by decide) ?_
  refine j_istore C [(6, .int 0), (0, .ref (a 0)), (1, .int p1), (2, .int p2), (3, .int p3), (4, .int p4), (5, .int p5)] d_Layers_shape_32 (by decide) rfl ?_
  obtain ⟨r7, hr7, h⟩ := bd_ok h
  refine j_sub [1, 2, 0] rfl ?_
  refine t_Layers_shape_l34 C hA fu 0 (Ls (Ls (Lf (Lf (Lf L 0 p1) 1 p2) 2 p3) 5 ((2 : Int32).toNatClampNeg) p4) 5 ((0 : Int32).toNatClampNeg) p5) hr7 (fun e8 => ?_)
  · obtain rfl := Option.some.inj h
    exact j_vret C hr d_Layers_shape_64 0 rfl
def Layers_add (n : Nat) (L : LyS) (p1 : Int32) (p2 : Int32) : Option (LyS) :=
  gd p1 24 (gd p1 24 (some (Lf (Ls L 4 p1.toNatClampNeg ((L.2 4 p1.toNatClampNeg) ||| ((1 : Int32) <<< (p2 &&& 31)))) 3 (((Ls L 4 p1.toNatClampNeg ((L.2 4 p1.toNatClampNeg) ||| ((1 : Int32) <<< (p2 &&& 31)))).1 3) + 1))))
set_option maxRecDepth 100000 in
set_option maxHeartbeats 4000000 in
theorem c_Layers_add (l : Launch) (D : va_G) (cI cR cZ : ClassId) (a : (Nat → Nat)) (n : Nat) (L : LyS) (p1 : Int32) (p2 : Int32) {res : (LyS)} (h : Layers_add n L p1 p2 = some res) (sz : Nat) : Met l y_Layers_add (Cond.code y_Layers_add b_Layers_add 3 none :: BIG) rm_Layers_add (PcI [.ref (a 0), .int p1, .int p2] D (tyG cI cR cZ) (wLy cI cR a n L) sz) (QcV D (fun _ : Nat => wLy cI cR a n res) (va_A (wLy cI cR a n L) sz)) 0 0 (va_A (wLy cI cR a n L) sz) := by
  refine met_V (by decide) (Nat.le_of_ble_eq_true rfl) (fun p e s m args below meth c A hA C hr => ?_)
  have C : Cx p s m args meth c D (tyG cI cR cZ) b_Layers_add 3 "MaskLayers$Layers" := C
  have hr : meth.sig.returnType = none := hr
  show J p l e rm_Layers_add s m args below meth c D A (va_D A) 3 (MQ below (QcV D (fun _ : Nat => wLy cI cR a n res) A) args s 0 0 A) 0 0 (wLy cI cR a n L) [(0, .ref (a 0)), (1, .int p1), (2, .int p2)] [] 0
  unfold Layers_add at h
  refine j_aload_n C 0 d_Layers_add_0 rfl ?_
  refine gf_Layers_16 C 0 (v := .ref (a 6)) rfl rfl d_Layers_add_1 ?_
  refine j_iload_n C 1 d_Layers_add_4 rfl ?_
  refine j_dup2 C d_Layers_add_5 rfl rfl ?_
  obtain ⟨b1, h⟩ := gd_ok h
  refine j_iald C (6) (t0 := 0) rfl rfl b1 d_Layers_add_6 ?_
  refine j_iconst C (v := 1) d_Layers_add_7 (by decide) ?_
  refine j_iload_n C 2 d_Layers_add_8 rfl ?_
  refine j_ishl C d_Layers_add_9 ?_
  refine j_ior C d_Layers_add_10 ?_
  obtain ⟨b2, h⟩ := gd_ok h
  refine j_iast C (6) (wLy cI cR a n (Ls L 4 p1.toNatClampNeg ((L.2 4 p1.toNatClampNeg) ||| ((1 : Int32) <<< (p2 &&& 31))))) (t0 := 0) rfl rfl rfl b2 d_Layers_add_11 ?_
  refine j_aload_n C 0 d_Layers_add_12 rfl ?_
  refine j_dup C d_Layers_add_13 rfl ?_
  refine gf_Layers_36 C 0 (v := .int ((Ls L 4 p1.toNatClampNeg ((L.2 4 p1.toNatClampNeg) ||| ((1 : Int32) <<< (p2 &&& 31)))).1 3)) rfl rfl d_Layers_add_14 ?_
  refine j_iconst C (v := 1) d_Layers_add_17 (by decide) ?_
  refine j_iadd C d_Layers_add_18 ?_
  refine pf_Layers_36 C 0 (wLy cI cR a n (Lf (Ls L 4 p1.toNatClampNeg ((L.2 4 p1.toNatClampNeg) ||| ((1 : Int32) <<< (p2 &&& 31)))) 3 (((Ls L 4 p1.toNatClampNeg ((L.2 4 p1.toNatClampNeg) ||| ((1 : Int32) <<< (p2 &&& 31)))).1 3) + 1))) rfl rfl rfl d_Layers_add_19 ?_
  obtain rfl := Option.some.inj h
  exact j_vret C hr d_Layers_add_22 0 rfl
end
section
def ByteRow_empty (B : ByS) : Option (ByS) :=
  some ((0, B.2))
set_option maxRecDepth 100000 in
set_option maxHeartbeats 4000000 in
theorem c_ByteRow_empty (l : Launch) (D : va_G) (cI cR cZ : ClassId) (b : Nat) (q : Nat) (B : ByS) {res : (ByS)} (h : ByteRow_empty B = some res) (sz : Nat) : Met l y_ByteRow_empty (Cond.code y_ByteRow_empty b_ByteRow_empty 1 none :: BIG) rm_ByteRow_empty (PcI [.ref b] D (tyG cI cR cZ) (wBy cI b q B) sz) (QcV D (fun _ : Nat => wBy cI b q res) (va_A (wBy cI b q B) sz)) 0 0 (va_A (wBy cI b q B) sz) := by
  refine met_V (by decide) (Nat.le_of_ble_eq_true rfl) (fun p e s m args below meth c A hA C hr => ?_)
  have C : Cx p s m args meth c D (tyG cI cR cZ) b_ByteRow_empty 1 "MaskLayers$ByteRow" := C
  have hr : meth.sig.returnType = none := hr
  show J p l e rm_ByteRow_empty s m args below meth c D A (va_D A) 1 (MQ below (QcV D (fun _ : Nat => wBy cI b q res) A) args s 0 0 A) 0 0 (wBy cI b q B) [(0, .ref b)] [] 0
  unfold ByteRow_empty at h
  refine j_aload_n C 0 d_ByteRow_empty_0 rfl ?_
  refine j_iconst C (v := 0) d_ByteRow_empty_1 (by decide) ?_
  refine pf_ByteRow_15 C 0 (wBy cI b q ((0, B.2))) rfl rfl rfl d_ByteRow_empty_2 ?_
  obtain rfl := Option.some.inj h
  exact j_vret C hr d_ByteRow_empty_5 0 rfl
def ByteRow_room (B : ByS) : Option Int32 :=
  some (6400 - B.1)
set_option maxRecDepth 100000 in
set_option maxHeartbeats 4000000 in
theorem c_ByteRow_room (l : Launch) (D : va_G) (cI cR cZ : ClassId) (b : Nat) (q : Nat) (B : ByS) {res : Int32} (h : ByteRow_room B = some res) : Met l y_ByteRow_room (Cond.code y_ByteRow_room b_ByteRow_room 1 (some .int) :: BIG) rm_ByteRow_room (PcP [.ref b] D (tyG cI cR cZ) (wBy cI b q B)) (QcP res) 0 0 no := by
  refine met_P (by decide) (Nat.le_of_ble_eq_true rfl) (fun p e s m args below meth c C hr => ?_)
  have C : Cx p s m args meth c D (tyG cI cR cZ) b_ByteRow_room 1 "MaskLayers$ByteRow" := C
  have hr : meth.sig.returnType = some .int := hr
  show J p l e rm_ByteRow_room s m args below meth c D no (fun _ => True) 1 (MQ below (QcP res) args s 0 0 no) 0 0 (wBy cI b q B) [(0, .ref b)] [] 0
  unfold ByteRow_room at h
  refine j_sipush C (v := 6400) d_ByteRow_room_0 (by decide) ?_
  refine j_aload_n C 0 d_ByteRow_room_3 rfl ?_
  refine gf_ByteRow_15 C 0 (v := .int B.1) rfl rfl d_ByteRow_room_4 ?_
  refine j_isub C d_ByteRow_room_7 ?_
  obtain rfl := Option.some.inj h
  exact j_pret C hr d_ByteRow_room_8
def ByteRow_holds (B : ByS) (p1 : Int32) : Option Int32 :=
  (if p1 < 0 then zb 0 (some 0)
  else (if B.1 ≤ p1 then zb 0 (some 0)
  else zb 1 (some 1)))
set_option maxRecDepth 100000 in
set_option maxHeartbeats 4000000 in
theorem c_ByteRow_holds (l : Launch) (D : va_G) (cI cR cZ : ClassId) (b : Nat) (q : Nat) (B : ByS) (p1 : Int32) {res : Int32} (h : ByteRow_holds B p1 = some res) : Met l y_ByteRow_holds (Cond.code y_ByteRow_holds b_ByteRow_holds 2 (some .boolean) :: BIG) rm_ByteRow_holds (PcP [.ref b, .int p1] D (tyG cI cR cZ) (wBy cI b q B)) (QcP res) 0 0 no := by
  refine met_P (by decide) (Nat.le_of_ble_eq_true rfl) (fun p e s m args below meth c C hr => ?_)
  have C : Cx p s m args meth c D (tyG cI cR cZ) b_ByteRow_holds 2 "MaskLayers$ByteRow" := C
  have hr : meth.sig.returnType = some .boolean := hr
  show J p l e rm_ByteRow_holds s m args below meth c D no (fun _ => True) 2 (MQ below (QcP res) args s 0 0 no) 0 0 (wBy cI b q B) [(0, .ref b), (1, .int p1)] [] 0
  unfold ByteRow_holds at h
  refine j_iload_n C 1 d_ByteRow_holds_0 rfl ?_
  refine j_if_lt C 16 d_ByteRow_holds_1 (by decide) (fun c5 => ?_) (fun c5 => ?_)
  · replace h := (if_pos c5).symm.trans h
    refine j_iconst C (v := 0) d_ByteRow_holds_16 (by decide) ?_
    obtain ⟨b1, h⟩ := zb_ok h
    obtain rfl := Option.some.inj h
    exact j_pretZ C hr d_ByteRow_holds_17 b1
  · replace h := (if_neg c5).symm.trans h
    refine j_iload_n C 1 d_ByteRow_holds_4 rfl ?_
    refine j_aload_n C 0 d_ByteRow_holds_5 rfl ?_
    refine gf_ByteRow_15 C 0 (v := .int B.1) rfl rfl d_ByteRow_holds_6 ?_
    refine j_icmp_ge C 16 d_ByteRow_holds_9 (by decide) (fun c4 => ?_) (fun c4 => ?_)
    · replace h := (if_pos c4).symm.trans h
      refine j_iconst C (v := 0) d_ByteRow_holds_16 (by decide) ?_
      obtain ⟨b2, h⟩ := zb_ok h
      obtain rfl := Option.some.inj h
      exact j_pretZ C hr d_ByteRow_holds_17 b2
    · replace h := (if_neg c4).symm.trans h
      refine j_iconst C (v := 1) d_ByteRow_holds_12 (by decide) ?_
      refine j_goto C 17 d_ByteRow_holds_13 (by decide) ?_
      obtain ⟨b3, h⟩ := zb_ok h
      obtain rfl := Option.some.inj h
      exact j_pretZ C hr d_ByteRow_holds_17 b3
def ByteRow_valueAt (B : ByS) (p1 : Int32) : Option Int32 :=
  (ByteRow_holds B p1).bind fun r1 =>
  (if r1 = 0 then some ((-1))
  else gd p1 B.2.1 (some (B.2.2 p1.toNatClampNeg)))
set_option maxRecDepth 100000 in
set_option maxHeartbeats 4000000 in
theorem c_ByteRow_valueAt (l : Launch) (D : va_G) (cI cR cZ : ClassId) (b : Nat) (q : Nat) (B : ByS) (p1 : Int32) {res : Int32} (h : ByteRow_valueAt B p1 = some res) : Met l y_ByteRow_valueAt (Cond.code y_ByteRow_valueAt b_ByteRow_valueAt 2 (some .int) :: BIG) rm_ByteRow_valueAt (PcP [.ref b, .int p1] D (tyG cI cR cZ) (wBy cI b q B)) (QcP res) 0 0 no := by
  refine met_P (by decide) (Nat.le_of_ble_eq_true rfl) (fun p e s m args below meth c C hr => ?_)
  have C : Cx p s m args meth c D (tyG cI cR cZ) b_ByteRow_valueAt 2 "MaskLayers$ByteRow" := C
  have hr : meth.sig.returnType = some .int := hr
  show J p l e rm_ByteRow_valueAt s m args below meth c D no (fun _ => True) 2 (MQ below (QcP res) args s 0 0 no) 0 0 (wBy cI b q B) [(0, .ref b), (1, .int p1)] [] 0
  unfold ByteRow_valueAt at h
  refine j_aload_n C 0 d_ByteRow_valueAt_0 rfl ?_
  refine j_iload_n C 1 d_ByteRow_valueAt_1 rfl ?_
  obtain ⟨r1, hr1, h⟩ := bd_ok h
  refine j_PV C [.int p1] 0 rfl rfl (c_ByteRow_holds l D cI cR cZ b q B p1 hr1) (cw_ByteRow_19 C ⟨Nat.le_of_ble_eq_true rfl, Nat.le_of_ble_eq_true rfl⟩) [0, 1] rfl rfl rfl (Nat.le_of_ble_eq_true rfl) d_ByteRow_valueAt_2 (by decide) ?_
  refine j_if_eq C 17 d_ByteRow_valueAt_5 (by decide) (fun c3 => ?_) (fun c3 => ?_)
  · replace h := (if_pos c3).symm.trans h
    refine j_iconst C (v := (-1)) d_ByteRow_valueAt_17 (by decide) ?_
    obtain rfl := Option.some.inj h
    exact j_pret C hr d_ByteRow_valueAt_18
  · replace h := (if_neg c3).symm.trans h
    refine j_aload_n C 0 d_ByteRow_valueAt_8 rfl ?_
    refine gf_ByteRow_9 C 0 (v := .ref q) rfl rfl d_ByteRow_valueAt_9 ?_
    refine j_iload_n C 1 d_ByteRow_valueAt_12 rfl ?_
    obtain ⟨b2, h⟩ := gd_ok h
    refine j_iald C (1) (t0 := 0) rfl rfl b2 d_ByteRow_valueAt_13 ?_
    refine j_goto C 18 d_ByteRow_valueAt_14 (by decide) ?_
    obtain rfl := Option.some.inj h
    exact j_pret C hr d_ByteRow_valueAt_18
def ByteRow_replace (B : ByS) (p1 : Int32) (p2 : Int32) : Option (Int32 × ByS) :=
  (ByteRow_valueAt B p1).bind fun r1 =>
  (ByteRow_holds B p1).bind fun r2 =>
  (if r2 = 0 then some (r1, B)
  else gd p1 B.2.1 (some (r1, (B.1, B.2.1, upd B.2.2 p1.toNatClampNeg p2))))
set_option maxRecDepth 100000 in
set_option maxHeartbeats 4000000 in
theorem c_ByteRow_replace (l : Launch) (D : va_G) (cI cR cZ : ClassId) (b : Nat) (q : Nat) (B : ByS) (p1 : Int32) (p2 : Int32) {res : (Int32 × ByS)} (h : ByteRow_replace B p1 p2 = some res) (sz : Nat) : Met l y_ByteRow_replace (Cond.code y_ByteRow_replace b_ByteRow_replace 4 (some .int) :: BIG) rm_ByteRow_replace (PcI [.ref b, .int p1, .int p2] D (tyG cI cR cZ) (wBy cI b q B) sz) (QcI D res.1 (fun _ : Nat => wBy cI b q res.2) (va_A (wBy cI b q B) sz)) 0 0 (va_A (wBy cI b q B) sz) := by
  refine met_I (by decide) (Nat.le_of_ble_eq_true rfl) (fun p e s m args below meth c A hA C hr => ?_)
  have C : Cx p s m args meth c D (tyG cI cR cZ) b_ByteRow_replace 4 "MaskLayers$ByteRow" := C
  have hr : meth.sig.returnType = some .int := hr
  show J p l e rm_ByteRow_replace s m args below meth c D A (va_D A) 4 (MQ below (QcI D res.1 (fun _ : Nat => wBy cI b q res.2) A) args s 0 0 A) 0 0 (wBy cI b q B) [(0, .ref b), (1, .int p1), (2, .int p2)] [] 0
  unfold ByteRow_replace at h
  refine j_aload_n C 0 d_ByteRow_replace_0 rfl ?_
  refine j_iload_n C 1 d_ByteRow_replace_1 rfl ?_
  obtain ⟨r1, hr1, h⟩ := bd_ok h
  refine j_PV C [.int p1] 0 rfl rfl (c_ByteRow_valueAt l D cI cR cZ b q B p1 hr1) (cw_ByteRow_39 C ⟨Nat.le_of_ble_eq_true rfl, Nat.le_of_ble_eq_true rfl⟩) [0, 1] rfl rfl rfl (Nat.le_of_ble_eq_true rfl) d_ByteRow_replace_2 (by decide) ?_
  refine j_istore_n C [(3, .int r1), (0, .ref b), (1, .int p1), (2, .int p2)] d_ByteRow_replace_5 (by decide) rfl ?_
  refine j_aload_n C 1 d_ByteRow_replace_6 rfl ?_
  refine j_iload_n C 2 d_ByteRow_replace_7 rfl ?_
  obtain ⟨r2, hr2, h⟩ := bd_ok h
  refine j_PV C [.int p1] 0 rfl rfl (c_ByteRow_holds l D cI cR cZ b q B p1 hr2) (cw_ByteRow_19 C ⟨Nat.le_of_ble_eq_true rfl, Nat.le_of_ble_eq_true rfl⟩) [0, 1] rfl rfl rfl (Nat.le_of_ble_eq_true rfl) d_ByteRow_replace_8 (by decide) ?_
  refine j_if_eq C 21 d_ByteRow_replace_11 (by decide) (fun c4 => ?_) (fun c4 => ?_)
  · replace h := (if_pos c4).symm.trans h
    refine j_iload_n C 0 d_ByteRow_replace_21 rfl ?_
    obtain rfl := Option.some.inj h
    exact j_iret C hr d_ByteRow_replace_22 0 rfl
  · replace h := (if_neg c4).symm.trans h
    refine j_aload_n C 1 d_ByteRow_replace_14 rfl ?_
    refine gf_ByteRow_9 C 0 (v := .ref q) rfl rfl d_ByteRow_replace_15 ?_
    refine j_iload_n C 2 d_ByteRow_replace_18 rfl ?_
    refine j_iload_n C 3 d_ByteRow_replace_19 rfl ?_
    obtain ⟨b3, h⟩ := gd_ok h
    refine j_iast C (1) (wBy cI b q ((B.1, B.2.1, upd B.2.2 p1.toNatClampNeg p2))) (t0 := 0) rfl rfl rfl b3 d_ByteRow_replace_20 ?_
    refine j_iload_n C 0 d_ByteRow_replace_21 rfl ?_
    obtain rfl := Option.some.inj h
    exact j_iret C hr d_ByteRow_replace_22 0 rfl
end
section
def Maker_fillBetween_b12 (v0 : Int32) (v1 : Int32) : Option Int32 :=
  (if v0 = ((-1)) then some v1
  else (if v1 = ((-1)) then some v0
  else (ML_middle v0 v1).bind fun r1 =>
  some r1))
def Maker_fillBetween (p1 : Int32) (p2 : Int32) (p3 : Int32) : Option Int32 :=
  (if p1 = ((-1)) then (if p2 = ((-1)) then some p3
  else Maker_fillBetween_b12 p1 p2)
  else Maker_fillBetween_b12 p1 p2)
set_option maxRecDepth 100000 in
set_option maxHeartbeats 4000000 in
theorem t_Maker_fillBetween_b12 {p : Program} {l : Launch} {e : Env} {s : State} {m : MethodId} {args : Array Value} {below : List Frame} {meth : Method} {c : Code} {D : va_G} {cI cR cZ : ClassId} (C : Cx p s m args meth c D (tyG cI cR cZ) b_Maker_fillBetween 3 "MaskLayers$Maker") (hr : meth.sig.returnType = some .int)   {v0 : Int32} {v1 : Int32} {res : Int32} (h : Maker_fillBetween_b12 v0 v1 = some res) : J p l e rm_Maker_fillBetween s m args below meth c D no (fun _ => True) 3 (MQ below (QcP res) args s 0 0 no) 0 0 ([]) [(0, .int v0), (1, .int v1)] [] 12 := by
  unfold Maker_fillBetween_b12 at h
  refine j_iload_n C 0 d_Maker_fillBetween_12 rfl ?_
  refine j_iconst C (v := (-1)) d_Maker_fillBetween_13 (by decide) ?_
  refine j_icmp_ne C 19 d_Maker_fillBetween_14 (by decide) (fun c3 => ?_) (fun c3 => ?_)
  · replace h := (if_neg c3).symm.trans h
    refine j_iload_n C 1 d_Maker_fillBetween_19 rfl ?_
    refine j_iconst C (v := (-1)) d_Maker_fillBetween_20 (by decide) ?_
    refine j_icmp_ne C 28 d_Maker_fillBetween_21 (by decide) (fun c2 => ?_) (fun c2 => ?_)
    · replace h := (if_neg c2).symm.trans h
      refine j_iload_n C 0 d_Maker_fillBetween_28 rfl ?_
      refine j_iload_n C 1 d_Maker_fillBetween_29 rfl ?_
      obtain ⟨r1, hr1, h⟩ := bd_ok h
      refine j_PSN C [.int v0, .int v1] (c_ML_middle l D cI cR cZ v0 v1 hr1) (cw_Maker_134 C ⟨Nat.le_of_ble_eq_true rfl, Nat.le_of_ble_eq_true rfl⟩) [] rfl rfl rfl (Nat.le_of_ble_eq_true rfl) d_Maker_fillBetween_30 (by decide) ?_
      obtain rfl := Option.some.inj h
      exact j_pret C hr d_Maker_fillBetween_33
    · replace h := (if_pos c2).symm.trans h
      refine j_iload_n C 0 d_Maker_fillBetween_24 rfl ?_
      refine j_goto C 33 d_Maker_fillBetween_25 (by decide) ?_
      obtain rfl := Option.some.inj h
      exact j_pret C hr d_Maker_fillBetween_33
  · replace h := (if_pos c3).symm.trans h
    refine j_iload_n C 1 d_Maker_fillBetween_17 rfl ?_
    obtain rfl := Option.some.inj h
    exact j_pret C hr d_Maker_fillBetween_18
set_option maxRecDepth 100000 in
set_option maxHeartbeats 4000000 in
theorem c_Maker_fillBetween (l : Launch) (D : va_G) (cI cR cZ : ClassId)  (p1 : Int32) (p2 : Int32) (p3 : Int32) {res : Int32} (h : Maker_fillBetween p1 p2 p3 = some res) : Met l y_Maker_fillBetween (Cond.code y_Maker_fillBetween b_Maker_fillBetween 3 (some .int) :: BIG) rm_Maker_fillBetween (PcP [.int p1, .int p2, .int p3] D (tyG cI cR cZ) ([])) (QcP res) 0 0 no := by
  refine met_P (by decide) (Nat.le_of_ble_eq_true rfl) (fun p e s m args below meth c C hr => ?_)
  have C : Cx p s m args meth c D (tyG cI cR cZ) b_Maker_fillBetween 3 "MaskLayers$Maker" := C
  have hr : meth.sig.returnType = some .int := hr
  show J p l e rm_Maker_fillBetween s m args below meth c D no (fun _ => True) 3 (MQ below (QcP res) args s 0 0 no) 0 0 ([]) [(0, .int p1), (1, .int p2), (2, .int p3)] [] 0
  unfold Maker_fillBetween at h
  refine j_iload_n C 0 d_Maker_fillBetween_0 rfl ?_
  refine j_iconst C (v := (-1)) d_Maker_fillBetween_1 (by decide) ?_
  refine j_icmp_ne C 12 d_Maker_fillBetween_2 (by decide) (fun c5 => ?_) (fun c5 => ?_)
  · replace h := (if_neg c5).symm.trans h
    refine j_sub [0, 1] rfl ?_
    exact t_Maker_fillBetween_b12 C hr h
  · replace h := (if_pos c5).symm.trans h
    refine j_iload_n C 1 d_Maker_fillBetween_5 rfl ?_
    refine j_iconst C (v := (-1)) d_Maker_fillBetween_6 (by decide) ?_
    refine j_icmp_ne C 12 d_Maker_fillBetween_7 (by decide) (fun c4 => ?_) (fun c4 => ?_)
    · replace h := (if_neg c4).symm.trans h
      refine j_sub [0, 1] rfl ?_
      exact t_Maker_fillBetween_b12 C hr h
    · replace h := (if_pos c4).symm.trans h
      refine j_iload_n C 2 d_Maker_fillBetween_10 rfl ?_
      obtain rfl := Option.some.inj h
      exact j_pret C hr d_Maker_fillBetween_11
def Maker_wasFilled (n : Nat) (col : (Nat → Int32)) (msk : (Nat → Int32)) (bare : (Nat → Int32)) (L : LyS) (p1 : Int32) (p2 : Int32) (p3 : Int32) : Option Int32 :=
  (Layers_stripeOf n L p3).bind fun r1 =>
  (Layers_has n L r1 p1).bind fun r2 =>
  (if r2 = 0 then zb 0 (some 0)
  else (Layers_placeOf n L p1 p2 p3).bind fun r4 =>
  gd r4 n ((if (((bare r4.toNatClampNeg) >>> (p1 &&& 31)) &&& 1) = 1 then zb 1 (some 1)
  else zb 0 (some 0))))
set_option maxRecDepth 100000 in
set_option maxHeartbeats 4000000 in
theorem c_Maker_wasFilled (l : Launch) (D : va_G) (cI cR cZ : ClassId) (o0 : Nat) (hc : Nat) (hm : Nat) (hb : Nat) (a : (Nat → Nat)) (n : Nat) (col : (Nat → Int32)) (msk : (Nat → Int32)) (bare : (Nat → Int32)) (L : LyS) (p1 : Int32) (p2 : Int32) (p3 : Int32) {res : Int32} (h : Maker_wasFilled n col msk bare L p1 p2 p3 = some res) : Met l y_Maker_wasFilled (Cond.code y_Maker_wasFilled b_Maker_wasFilled 4 (some .boolean) :: BIG) rm_Maker_wasFilled (PcP [.ref o0, .int p1, .int p2, .int p3] D (tyG cI cR cZ) (wMk cI cR o0 hc hm hb a n col msk bare L)) (QcP res) 0 0 no := by
  refine met_P (by decide) (Nat.le_of_ble_eq_true rfl) (fun p e s m args below meth c C hr => ?_)
  have C : Cx p s m args meth c D (tyG cI cR cZ) b_Maker_wasFilled 4 "MaskLayers$Maker" := C
  have hr : meth.sig.returnType = some .boolean := hr
  show J p l e rm_Maker_wasFilled s m args below meth c D no (fun _ => True) 4 (MQ below (QcP res) args s 0 0 no) 0 0 (wMk cI cR o0 hc hm hb a n col msk bare L) [(0, .ref o0), (1, .int p1), (2, .int p2), (3, .int p3)] [] 0
  unfold Maker_wasFilled at h
  refine j_aload_n C 0 d_Maker_wasFilled_0 rfl ?_
  refine gf_Maker_9 C 0 (v := .ref (a 0)) rfl rfl d_Maker_wasFilled_1 ?_
  refine j_aload_n C 0 d_Maker_wasFilled_4 rfl ?_
  refine gf_Maker_9 C 0 (v := .ref (a 0)) rfl rfl d_Maker_wasFilled_5 ?_
  refine j_iload_n C 3 d_Maker_wasFilled_8 rfl ?_
  obtain ⟨r1, hr1, h⟩ := bd_ok h
  refine j_PV C [.int p3] 4 rfl rfl (c_Layers_stripeOf l D cI cR cZ a n L p3 hr1) (cw_Maker_48 C ⟨Nat.le_of_ble_eq_true rfl, Nat.le_of_ble_eq_true rfl⟩) [4, 5, 6, 7, 8, 9, 10, 11, 12] rfl rfl rfl (Nat.le_of_ble_eq_true rfl) d_Maker_wasFilled_9 (by decide) ?_
  refine j_iload_n C 1 d_Maker_wasFilled_12 rfl ?_
  obtain ⟨r2, hr2, h⟩ := bd_ok h
  refine j_PV C [.int r1, .int p1] 4 rfl rfl (c_Layers_has l D cI cR cZ a n L r1 p1 hr2) (cw_Maker_52 C ⟨Nat.le_of_ble_eq_true rfl, Nat.le_of_ble_eq_true rfl⟩) [4, 5, 6, 7, 8, 9, 10, 11, 12] rfl rfl rfl (Nat.le_of_ble_eq_true rfl) d_Maker_wasFilled_13 (by decide) ?_
  refine j_if_eq C 46 d_Maker_wasFilled_16 (by decide) (fun c9 => ?_) (fun c9 => ?_)
  · replace h := (if_pos c9).symm.trans h
    refine j_iconst C (v := 0) d_Maker_wasFilled_46 (by decide) ?_
    obtain ⟨b3, h⟩ := zb_ok h
    obtain rfl := Option.some.inj h
    exact j_pretZ C hr d_Maker_wasFilled_47 b3
  · replace h := (if_neg c9).symm.trans h
    refine j_aload_n C 0 d_Maker_wasFilled_19 rfl ?_
    refine gf_Maker_22 C 0 (v := .ref hb) rfl rfl d_Maker_wasFilled_20 ?_
    refine j_aload_n C 0 d_Maker_wasFilled_23 rfl ?_
    refine gf_Maker_9 C 0 (v := .ref (a 0)) rfl rfl d_Maker_wasFilled_24 ?_
    refine j_iload_n C 1 d_Maker_wasFilled_27 rfl ?_
    refine j_iload_n C 2 d_Maker_wasFilled_28 rfl ?_
    refine j_iload_n C 3 d_Maker_wasFilled_29 rfl ?_
    obtain ⟨r4, hr4, h⟩ := bd_ok h
    refine j_PV C [.int p1, .int p2, .int p3] 4 rfl rfl (c_Layers_placeOf l D cI cR cZ a n L p1 p2 p3 hr4) (cw_Maker_56 C ⟨Nat.le_of_ble_eq_true rfl, Nat.le_of_ble_eq_true rfl⟩) [4, 5, 6, 7, 8, 9, 10, 11, 12] rfl rfl rfl (Nat.le_of_ble_eq_true rfl) d_Maker_wasFilled_30 (by decide) ?_
    obtain ⟨b5, h⟩ := gd_ok h
    refine j_iald C (3) (t0 := 0) rfl rfl b5 d_Maker_wasFilled_33 ?_
    refine j_iload_n C 1 d_Maker_wasFilled_34 rfl ?_
    refine j_ishr C d_Maker_wasFilled_35 ?_
    refine j_iconst C (v := 1) d_Maker_wasFilled_36 (by decide) ?_
    refine j_iand C d_Maker_wasFilled_37 ?_
    refine j_iconst C (v := 1) d_Maker_wasFilled_38 (by decide) ?_
    refine j_icmp_ne C 46 d_Maker_wasFilled_39 (by decide) (fun c8 => ?_) (fun c8 => ?_)
    · replace h := (if_neg c8).symm.trans h
      refine j_iconst C (v := 0) d_Maker_wasFilled_46 (by decide) ?_
      obtain ⟨b6, h⟩ := zb_ok h
      obtain rfl := Option.some.inj h
      exact j_pretZ C hr d_Maker_wasFilled_47 b6
    · replace h := (if_pos c8).symm.trans h
      refine j_iconst C (v := 1) d_Maker_wasFilled_42 (by decide) ?_
      refine j_goto C 47 d_Maker_wasFilled_43 (by decide) ?_
      obtain ⟨b7, h⟩ := zb_ok h
      obtain rfl := Option.some.inj h
      exact j_pretZ C hr d_Maker_wasFilled_47 b7
def Maker_meanOfBlock_l133 (n : Nat) (col : (Nat → Int32)) (msk : (Nat → Int32)) (bare : (Nat → Int32)) (L : LyS) (v7 : Int32) (v8 : Int32) (v9 : Int32) (v10 : Int32) (v15 : Int32) (v16 : Int32) : Nat → Int32 → Int32 → Int32 → Int32 → Int32 → Option (Nat × Int32 × Int32 × Int32 × Int32)
  | 0, _, _, _, _, _ => none
  | k + 1, v11, v12, v13, v14, v17 =>
  (if v16 ≤ v17 then some (0, v11, v12, v13, v14)
  else gd v17 n ((if (msk v17.toNatClampNeg) = v10 then gd v17 n ((ML_red (col v17.toNatClampNeg)).bind fun r6 =>
  gd v17 n ((ML_green (col v17.toNatClampNeg)).bind fun r8 =>
  gd v17 n ((ML_blue (col v17.toNatClampNeg)).bind fun r10 =>
  Maker_meanOfBlock_l133 n col msk bare L v7 v8 v9 v10 v15 v16 k (v11 + 1) (v12 + r6) (v13 + r8) (v14 + r10) (v17 + 1))))
  else Maker_meanOfBlock_l133 n col msk bare L v7 v8 v9 v10 v15 v16 k v11 v12 v13 v14 (v17 + 1))))
def Maker_meanOfBlock_l96 (fu : Nat) (n : Nat) (col : (Nat → Int32)) (msk : (Nat → Int32)) (bare : (Nat → Int32)) (L : LyS) (v7 : Int32) (v8 : Int32) (v9 : Int32) (v10 : Int32) : Nat → Int32 → Int32 → Int32 → Int32 → Int32 → Option (Nat × Int32 × Int32 × Int32 × Int32)
  | 0, _, _, _, _, _ => none
  | k + 1, v11, v12, v13, v14, v15 =>
  (if v7 ≤ v15 then some (0, v11, v12, v13, v14)
  else (Maker_meanOfBlock_l133 n col msk bare L v7 v8 v9 v10 v15 ((v15 * (L.1 0)) + v9) fu v11 v12 v13 v14 ((v15 * (L.1 0)) + v8)).bind fun r13 =>
  Maker_meanOfBlock_l96 fu n col msk bare L v7 v8 v9 v10 k r13.2.1 r13.2.2.1 r13.2.2.2.1 r13.2.2.2.2 (v15 + 1))
def Maker_meanOfBlock_b78 (fu : Nat) (n : Nat) (col : (Nat → Int32)) (msk : (Nat → Int32)) (bare : (Nat → Int32)) (L : LyS) (v6 : Int32) (v7 : Int32) (v8 : Int32) (v9 : Int32) (s0 : Int32) : Option Int32 :=
  (Maker_meanOfBlock_l96 fu n col msk bare L v7 v8 v9 s0 fu 0 0 0 0 v6).bind fun r16 =>
  (if r16.2.1 = 0 then some ((-1))
  else (ML_mean r16.2.2.1 r16.2.1).bind fun r17 =>
  (ML_mean r16.2.2.2.1 r16.2.1).bind fun r18 =>
  (ML_mean r16.2.2.2.2 r16.2.1).bind fun r19 =>
  (ML_colourOf r17 r18 r19).bind fun r20 =>
  some r20)
def Maker_meanOfBlock (fu : Nat) (n : Nat) (col : (Nat → Int32)) (msk : (Nat → Int32)) (bare : (Nat → Int32)) (L : LyS) (p1 : Int32) (p2 : Int32) (p3 : Int32) (p4 : Int32) : Option Int32 :=
  gd p2 4 ((Layers_topOf n L p1).bind fun r2 =>
  (Layers_bottomOf n L p1).bind fun r3 =>
  (if p2 = 2 then Maker_meanOfBlock_b78 fu n col msk bare L (r2 + (p4 * (L.2 5 p2.toNatClampNeg))) (mn ((r2 + (p4 * (L.2 5 p2.toNatClampNeg))) + (L.2 5 p2.toNatClampNeg)) r3) (p3 * (L.2 5 p2.toNatClampNeg)) (mn ((p3 * (L.2 5 p2.toNatClampNeg)) + (L.2 5 p2.toNatClampNeg)) (L.1 0)) 1
  else Maker_meanOfBlock_b78 fu n col msk bare L (r2 + (p4 * (L.2 5 p2.toNatClampNeg))) (mn ((r2 + (p4 * (L.2 5 p2.toNatClampNeg))) + (L.2 5 p2.toNatClampNeg)) r3) (p3 * (L.2 5 p2.toNatClampNeg)) (mn ((p3 * (L.2 5 p2.toNatClampNeg)) + (L.2 5 p2.toNatClampNeg)) (L.1 0)) 0))
set_option maxRecDepth 100000 in
set_option maxHeartbeats 4000000 in
theorem t_Maker_meanOfBlock_l133 {p : Program} {l : Launch} {e : Env} {s : State} {m : MethodId} {args : Array Value} {below : List Frame} {meth : Method} {c : Code} {D : va_G} {cI cR cZ : ClassId} {Q : State → Prop} (C : Cx p s m args meth c D (tyG cI cR cZ) b_Maker_meanOfBlock 18 "MaskLayers$Maker") {o0 : Nat} {hc : Nat} {hm : Nat} {hb : Nat} {a : (Nat → Nat)} {n : Nat} {col : (Nat → Int32)} {msk : (Nat → Int32)} {bare : (Nat → Int32)} {L : LyS} {v7 : Int32} {v8 : Int32} {v9 : Int32} {v10 : Int32} {v15 : Int32} {v16 : Int32} {out : Nat × Int32 × Int32 × Int32 × Int32} : ∀ (k : Nat) (v11 : Int32) (v12 : Int32) (v13 : Int32) (v14 : Int32) (v17 : Int32), Maker_meanOfBlock_l133 n col msk bare L v7 v8 v9 v10 v15 v16 k v11 v12 v13 v14 v17 = some out → (out.1 = 0 → J p l e rm_Maker_meanOfBlock s m args below meth c D no (fun _ => True) 18 Q 0 0 (wMk cI cR o0 hc hm hb a n col msk bare L) [(0, .ref o0), (7, .int v7), (8, .int v8), (9, .int v9), (10, .int v10), (11, .int out.2.1), (12, .int out.2.2.1), (13, .int out.2.2.2.1), (14, .int out.2.2.2.2), (15, .int v15)] [] 206) → J p l e rm_Maker_meanOfBlock s m args below meth c D no (fun _ => True) 18 Q 0 0 (wMk cI cR o0 hc hm hb a n col msk bare L) [(0, .ref o0), (7, .int v7), (8, .int v8), (9, .int v9), (10, .int v10), (11, .int v11), (12, .int v12), (13, .int v13), (14, .int v14), (15, .int v15), (16, .int v16), (17, .int v17)] [] 133 := by
  intro k
  induction k with
  | zero => intro v11 v12 v13 v14 v17 h; cases (show none = some out from h)
  | succ k ih =>
    intro v11 v12 v13 v14 v17 h x0
    rw [Maker_meanOfBlock_l133] at h
    refine j_iload C 11 d_Maker_meanOfBlock_133 rfl ?_
    refine j_iload C 10 d_Maker_meanOfBlock_135 rfl ?_
    refine j_icmp_ge C 206 d_Maker_meanOfBlock_137 (by decide) (fun c12 => ?_) (fun c12 => ?_)
    · replace h := (if_pos c12).symm.trans h
      obtain rfl := Option.some.inj h
      refine j_sub [0, 1, 2, 3, 4, 5, 6, 7, 8, 9] rfl ?_
      exact x0 rfl
    · replace h := (if_neg c12).symm.trans h
      refine j_aload_n C 0 d_Maker_meanOfBlock_140 rfl ?_
      refine gf_Maker_19 C 0 (v := .ref hm) rfl rfl d_Maker_meanOfBlock_141 ?_
      refine j_iload C 11 d_Maker_meanOfBlock_144 rfl ?_
      obtain ⟨b4, h⟩ := gd_ok h
      refine j_iald C (2) (t0 := 0) rfl rfl b4 d_Maker_meanOfBlock_146 ?_
      refine j_iload C 4 d_Maker_meanOfBlock_147 rfl ?_
      refine j_icmp_ne C 200 d_Maker_meanOfBlock_149 (by decide) (fun c11 => ?_) (fun c11 => ?_)
      · replace h := (if_neg c11).symm.trans h
        refine j_iinc C [(17, .int (v17 + 1)), (0, .ref o0), (7, .int v7), (8, .int v8), (9, .int v9), (10, .int v10), (11, .int v11), (12, .int v12), (13, .int v13), (14, .int v14), (15, .int v15), (16, .int v16)] 11 (v17 + 1) d_Maker_meanOfBlock_200 rfl rfl (by decide) rfl ?_
        refine j_goto C 133 d_Maker_meanOfBlock_203 (by decide) ?_
        refine j_sub [1, 2, 3, 4, 5, 6, 7, 8, 9, 10, 11, 0] rfl ?_
        exact ih v11 v12 v13 v14 (v17 + 1) h x0
      · replace h := (if_pos c11).symm.trans h
        refine j_iinc C [(11, .int (v11 + 1)), (0, .ref o0), (7, .int v7), (8, .int v8), (9, .int v9), (10, .int v10), (12, .int v12), (13, .int v13), (14, .int v14), (15, .int v15), (16, .int v16), (17, .int v17)] 5 (v11 + 1) d_Maker_meanOfBlock_152 rfl rfl (by decide) rfl ?_
        refine j_iload C 6 d_Maker_meanOfBlock_155 rfl ?_
        refine j_aload_n C 1 d_Maker_meanOfBlock_157 rfl ?_
        refine gf_Maker_15 C 0 (v := .ref hc) rfl rfl d_Maker_meanOfBlock_158 ?_
        refine j_iload C 11 d_Maker_meanOfBlock_161 rfl ?_
        obtain ⟨b5, h⟩ := gd_ok h
        refine j_iald C (1) (t0 := 0) rfl rfl b5 d_Maker_meanOfBlock_163 ?_
        obtain ⟨r6, hr6, h⟩ := bd_ok h
        refine j_PSN C [.int (col v17.toNatClampNeg)] (c_ML_red l D cI cR cZ (col v17.toNatClampNeg) hr6) (cw_Maker_116 C ⟨Nat.le_of_ble_eq_true rfl, Nat.le_of_ble_eq_true rfl⟩) [] rfl rfl rfl (Nat.le_of_ble_eq_true rfl) d_Maker_meanOfBlock_164 (by decide) ?_
        refine j_iadd C d_Maker_meanOfBlock_167 ?_
        refine j_istore C [(12, .int (v12 + r6)), (11, .int (v11 + 1)), (0, .ref o0), (7, .int v7), (8, .int v8), (9, .int v9), (10, .int v10), (13, .int v13), (14, .int v14), (15, .int v15), (16, .int v16), (17, .int v17)] d_Maker_meanOfBlock_168 (by decide) rfl ?_
        refine j_iload C 7 d_Maker_meanOfBlock_170 rfl ?_
        refine j_aload_n C 2 d_Maker_meanOfBlock_172 rfl ?_
        refine gf_Maker_15 C 0 (v := .ref hc) rfl rfl d_Maker_meanOfBlock_173 ?_
        refine j_iload C 11 d_Maker_meanOfBlock_176 rfl ?_
        obtain ⟨b7, h⟩ := gd_ok h
        refine j_iald C (1) (t0 := 0) rfl rfl b7 d_Maker_meanOfBlock_178 ?_
        obtain ⟨r8, hr8, h⟩ := bd_ok h
        refine j_PSN C [.int (col v17.toNatClampNeg)] (c_ML_green l D cI cR cZ (col v17.toNatClampNeg) hr8) (cw_Maker_119 C ⟨Nat.le_of_ble_eq_true rfl, Nat.le_of_ble_eq_true rfl⟩) [] rfl rfl rfl (Nat.le_of_ble_eq_true rfl) d_Maker_meanOfBlock_179 (by decide) ?_
        refine j_iadd C d_Maker_meanOfBlock_182 ?_
        refine j_istore C [(13, .int (v13 + r8)), (12, .int (v12 + r6)), (11, .int (v11 + 1)), (0, .ref o0), (7, .int v7), (8, .int v8), (9, .int v9), (10, .int v10), (14, .int v14), (15, .int v15), (16, .int v16), (17, .int v17)] d_Maker_meanOfBlock_183 (by decide) rfl ?_
        refine j_iload C 8 d_Maker_meanOfBlock_185 rfl ?_
        refine j_aload_n C 3 d_Maker_meanOfBlock_187 rfl ?_
        refine gf_Maker_15 C 0 (v := .ref hc) rfl rfl d_Maker_meanOfBlock_188 ?_
        refine j_iload C 11 d_Maker_meanOfBlock_191 rfl ?_
        obtain ⟨b9, h⟩ := gd_ok h
        refine j_iald C (1) (t0 := 0) rfl rfl b9 d_Maker_meanOfBlock_193 ?_
        obtain ⟨r10, hr10, h⟩ := bd_ok h
        refine j_PSN C [.int (col v17.toNatClampNeg)] (c_ML_blue l D cI cR cZ (col v17.toNatClampNeg) hr10) (cw_Maker_122 C ⟨Nat.le_of_ble_eq_true rfl, Nat.le_of_ble_eq_true rfl⟩) [] rfl rfl rfl (Nat.le_of_ble_eq_true rfl) d_Maker_meanOfBlock_194 (by decide) ?_
        refine j_iadd C d_Maker_meanOfBlock_197 ?_
        refine j_istore C [(14, .int (v14 + r10)), (13, .int (v13 + r8)), (12, .int (v12 + r6)), (11, .int (v11 + 1)), (0, .ref o0), (7, .int v7), (8, .int v8), (9, .int v9), (10, .int v10), (15, .int v15), (16, .int v16), (17, .int v17)] d_Maker_meanOfBlock_198 (by decide) rfl ?_
        refine j_iinc C [(17, .int (v17 + 1)), (14, .int (v14 + r10)), (13, .int (v13 + r8)), (12, .int (v12 + r6)), (11, .int (v11 + 1)), (0, .ref o0), (7, .int v7), (8, .int v8), (9, .int v9), (10, .int v10), (15, .int v15), (16, .int v16)] 11 (v17 + 1) d_Maker_meanOfBlock_200 rfl rfl (by decide) rfl ?_
        refine j_goto C 133 d_Maker_meanOfBlock_203 (by decide) ?_
        refine j_sub [5, 6, 7, 8, 9, 4, 3, 2, 1, 10, 11, 0] rfl ?_
        exact ih (v11 + 1) (v12 + r6) (v13 + r8) (v14 + r10) (v17 + 1) h x0
set_option maxRecDepth 100000 in
set_option maxHeartbeats 4000000 in
theorem t_Maker_meanOfBlock_l96 {p : Program} {l : Launch} {e : Env} {s : State} {m : MethodId} {args : Array Value} {below : List Frame} {meth : Method} {c : Code} {D : va_G} {cI cR cZ : ClassId} {Q : State → Prop} (C : Cx p s m args meth c D (tyG cI cR cZ) b_Maker_meanOfBlock 18 "MaskLayers$Maker") {o0 : Nat} {hc : Nat} {hm : Nat} {hb : Nat} {a : (Nat → Nat)} {n : Nat} {fu : Nat} {col : (Nat → Int32)} {msk : (Nat → Int32)} {bare : (Nat → Int32)} {L : LyS} {v7 : Int32} {v8 : Int32} {v9 : Int32} {v10 : Int32} {out : Nat × Int32 × Int32 × Int32 × Int32} : ∀ (k : Nat) (v11 : Int32) (v12 : Int32) (v13 : Int32) (v14 : Int32) (v15 : Int32), Maker_meanOfBlock_l96 fu n col msk bare L v7 v8 v9 v10 k v11 v12 v13 v14 v15 = some out → (out.1 = 0 → J p l e rm_Maker_meanOfBlock s m args below meth c D no (fun _ => True) 18 Q 0 0 (wMk cI cR o0 hc hm hb a n col msk bare L) [(11, .int out.2.1), (12, .int out.2.2.1), (13, .int out.2.2.2.1), (14, .int out.2.2.2.2)] [] 212) → J p l e rm_Maker_meanOfBlock s m args below meth c D no (fun _ => True) 18 Q 0 0 (wMk cI cR o0 hc hm hb a n col msk bare L) [(0, .ref o0), (7, .int v7), (8, .int v8), (9, .int v9), (10, .int v10), (11, .int v11), (12, .int v12), (13, .int v13), (14, .int v14), (15, .int v15)] [] 96 := by
  intro k
  induction k with
  | zero => intro v11 v12 v13 v14 v15 h; cases (show none = some out from h)
  | succ k ih =>
    intro v11 v12 v13 v14 v15 h x0
    rw [Maker_meanOfBlock_l96] at h
    refine j_iload C 9 d_Maker_meanOfBlock_96 rfl ?_
    refine j_iload C 1 d_Maker_meanOfBlock_98 rfl ?_
    refine j_icmp_ge C 212 d_Maker_meanOfBlock_100 (by decide) (fun c15 => ?_) (fun c15 => ?_)
    · replace h := (if_pos c15).symm.trans h
      obtain rfl := Option.some.inj h
      refine j_sub [5, 6, 7, 8] rfl ?_
      exact x0 rfl
    · replace h := (if_neg c15).symm.trans h
      refine j_iload C 9 d_Maker_meanOfBlock_103 rfl ?_
      refine j_aload_n C 0 d_Maker_meanOfBlock_105 rfl ?_
      refine gf_Maker_9 C 0 (v := .ref (a 0)) rfl rfl d_Maker_meanOfBlock_106 ?_
      refine gf_Maker_113 C 4 (v := .int (L.1 0)) rfl rfl d_Maker_meanOfBlock_109 ?_
      refine j_imul C d_Maker_meanOfBlock_112 ?_
      refine j_iload C 3 d_Maker_meanOfBlock_113 rfl ?_
      refine j_iadd C d_Maker_meanOfBlock_115 ?_
      refine j_istore C [(16, .int ((v15 * (L.1 0)) + v9)), (0, .ref o0), (7, .int v7), (8, .int v8), (9, .int v9), (10, .int v10), (11, .int v11), (12, .int v12), (13, .int v13), (14, .int v14), (15, .int v15)] d_Maker_meanOfBlock_116 (by decide) rfl ?_
      refine j_iload C 10 d_Maker_meanOfBlock_118 rfl ?_
      refine j_aload_n C 1 d_Maker_meanOfBlock_120 rfl ?_
      refine gf_Maker_9 C 0 (v := .ref (a 0)) rfl rfl d_Maker_meanOfBlock_121 ?_
      refine gf_Maker_113 C 4 (v := .int (L.1 0)) rfl rfl d_Maker_meanOfBlock_124 ?_
      refine j_imul C d_Maker_meanOfBlock_127 ?_
      refine j_iload C 3 d_Maker_meanOfBlock_128 rfl ?_
      refine j_iadd C d_Maker_meanOfBlock_130 ?_
      refine j_istore C [(17, .int ((v15 * (L.1 0)) + v8)), (16, .int ((v15 * (L.1 0)) + v9)), (0, .ref o0), (7, .int v7), (8, .int v8), (9, .int v9), (10, .int v10), (11, .int v11), (12, .int v12), (13, .int v13), (14, .int v14), (15, .int v15)] d_Maker_meanOfBlock_131 (by decide) rfl ?_
      obtain ⟨r13, hr13, h⟩ := bd_ok h
      refine j_sub [2, 3, 4, 5, 6, 7, 8, 9, 10, 11, 1, 0] rfl ?_
      refine t_Maker_meanOfBlock_l133 C fu v11 v12 v13 v14 ((v15 * (L.1 0)) + v8) hr13 (fun e14 => ?_)
      · refine j_iinc C [(15, .int (v15 + 1)), (0, .ref o0), (7, .int v7), (8, .int v8), (9, .int v9), (10, .int v10), (11, .int r13.2.1), (12, .int r13.2.2.1), (13, .int r13.2.2.2.1), (14, .int r13.2.2.2.2)] 9 (v15 + 1) d_Maker_meanOfBlock_206 rfl rfl (by decide) rfl ?_
        refine j_goto C 96 d_Maker_meanOfBlock_209 (by decide) ?_
        refine j_sub [1, 2, 3, 4, 5, 6, 7, 8, 9, 0] rfl ?_
        exact ih r13.2.1 r13.2.2.1 r13.2.2.2.1 r13.2.2.2.2 (v15 + 1) h x0
set_option maxRecDepth 100000 in
set_option maxHeartbeats 4000000 in
theorem t_Maker_meanOfBlock_b78 {p : Program} {l : Launch} {e : Env} {s : State} {m : MethodId} {args : Array Value} {below : List Frame} {meth : Method} {c : Code} {D : va_G} {cI cR cZ : ClassId} (C : Cx p s m args meth c D (tyG cI cR cZ) b_Maker_meanOfBlock 18 "MaskLayers$Maker") (hr : meth.sig.returnType = some .int) {o0 : Nat} {hc : Nat} {hm : Nat} {hb : Nat} {a : (Nat → Nat)} {n : Nat} {col : (Nat → Int32)} {msk : (Nat → Int32)} {bare : (Nat → Int32)} {L : LyS} {fu : Nat} {v6 : Int32} {v7 : Int32} {v8 : Int32} {v9 : Int32} {s0 : Int32} {res : Int32} (h : Maker_meanOfBlock_b78 fu n col msk bare L v6 v7 v8 v9 s0 = some res) : J p l e rm_Maker_meanOfBlock s m args below meth c D no (fun _ => True) 18 (MQ below (QcP res) args s 0 0 no) 0 0 (wMk cI cR o0 hc hm hb a n col msk bare L) [(0, .ref o0), (6, .int v6), (7, .int v7), (8, .int v8), (9, .int v9)] [.int s0] 78 := by
  unfold Maker_meanOfBlock_b78 at h
  refine j_istore C [(10, .int s0), (0, .ref o0), (6, .int v6), (7, .int v7), (8, .int v8), (9, .int v9)] d_Maker_meanOfBlock_78 (by decide) rfl ?_
  refine j_iconst C (v := 0) d_Maker_meanOfBlock_80 (by decide) ?_
  refine j_istore C [(11, .int 0), (10, .int s0), (0, .ref o0), (6, .int v6), (7, .int v7), (8, .int v8), (9, .int v9)] d_Maker_meanOfBlock_81 (by decide) rfl ?_
  refine j_iconst C (v := 0) d_Maker_meanOfBlock_83 (by decide) ?_
  refine j_istore C [(12, .int 0), (11, .int 0), (10, .int s0), (0, .ref o0), (6, .int v6), (7, .int v7), (8, .int v8), (9, .int v9)] d_Maker_meanOfBlock_84 (by decide) rfl ?_
  refine j_iconst C (v := 0) d_Maker_meanOfBlock_86 (by decide) ?_
  refine j_istore C [(13, .int 0), (12, .int 0), (11, .int 0), (10, .int s0), (0, .ref o0), (6, .int v6), (7, .int v7), (8, .int v8), (9, .int v9)] d_Maker_meanOfBlock_87 (by decide) rfl ?_
  refine j_iconst C (v := 0) d_Maker_meanOfBlock_89 (by decide) ?_
  refine j_istore C [(14, .int 0), (13, .int 0), (12, .int 0), (11, .int 0), (10, .int s0), (0, .ref o0), (6, .int v6), (7, .int v7), (8, .int v8), (9, .int v9)] d_Maker_meanOfBlock_90 (by decide) rfl ?_
  refine j_iload C 6 d_Maker_meanOfBlock_92 rfl ?_
  refine j_istore C [(15, .int v6), (14, .int 0), (13, .int 0), (12, .int 0), (11, .int 0), (10, .int s0), (0, .ref o0), (6, .int v6), (7, .int v7), (8, .int v8), (9, .int v9)] d_Maker_meanOfBlock_94 (by decide) rfl ?_
  obtain ⟨r16, hr16, h⟩ := bd_ok h
  refine j_sub [6, 8, 9, 10, 5, 4, 3, 2, 1, 0] rfl ?_
  refine t_Maker_meanOfBlock_l96 C fu 0 0 0 0 v6 hr16 (fun e22 => ?_)
  · refine j_iload C 0 d_Maker_meanOfBlock_212 rfl ?_
    refine j_if_ne C 221 d_Maker_meanOfBlock_214 (by decide) (fun c21 => ?_) (fun c21 => ?_)
    · replace h := (if_neg c21).symm.trans h
      refine j_iload C 1 d_Maker_meanOfBlock_221 rfl ?_
      refine j_iload C 0 d_Maker_meanOfBlock_223 rfl ?_
      obtain ⟨r17, hr17, h⟩ := bd_ok h
      refine j_PSN C [.int r16.2.2.1, .int r16.2.1] (c_ML_mean l D cI cR cZ r16.2.2.1 r16.2.1 hr17) (cw_Maker_125 C ⟨Nat.le_of_ble_eq_true rfl, Nat.le_of_ble_eq_true rfl⟩) [] rfl rfl rfl (Nat.le_of_ble_eq_true rfl) d_Maker_meanOfBlock_225 (by decide) ?_
      refine j_iload C 2 d_Maker_meanOfBlock_228 rfl ?_
      refine j_iload C 0 d_Maker_meanOfBlock_230 rfl ?_
      obtain ⟨r18, hr18, h⟩ := bd_ok h
      refine j_PSN C [.int r16.2.2.2.1, .int r16.2.1] (c_ML_mean l D cI cR cZ r16.2.2.2.1 r16.2.1 hr18) (cw_Maker_125 C ⟨Nat.le_of_ble_eq_true rfl, Nat.le_of_ble_eq_true rfl⟩) [] rfl rfl rfl (Nat.le_of_ble_eq_true rfl) d_Maker_meanOfBlock_232 (by decide) ?_
      refine j_iload C 3 d_Maker_meanOfBlock_235 rfl ?_
      refine j_iload C 0 d_Maker_meanOfBlock_237 rfl ?_
      obtain ⟨r19, hr19, h⟩ := bd_ok h
      refine j_PSN C [.int r16.2.2.2.2, .int r16.2.1] (c_ML_mean l D cI cR cZ r16.2.2.2.2 r16.2.1 hr19) (cw_Maker_125 C ⟨Nat.le_of_ble_eq_true rfl, Nat.le_of_ble_eq_true rfl⟩) [] rfl rfl rfl (Nat.le_of_ble_eq_true rfl) d_Maker_meanOfBlock_239 (by decide) ?_
      obtain ⟨r20, hr20, h⟩ := bd_ok h
      refine j_PSN C [.int r17, .int r18, .int r19] (c_ML_colourOf l D cI cR cZ r17 r18 r19 hr20) (cw_Maker_128 C ⟨Nat.le_of_ble_eq_true rfl, Nat.le_of_ble_eq_true rfl⟩) [] rfl rfl rfl (Nat.le_of_ble_eq_true rfl) d_Maker_meanOfBlock_242 (by decide) ?_
      obtain rfl := Option.some.inj h
      exact j_pret C hr d_Maker_meanOfBlock_245
    · replace h := (if_pos c21).symm.trans h
      refine j_iconst C (v := (-1)) d_Maker_meanOfBlock_217 (by decide) ?_
      refine j_goto C 245 d_Maker_meanOfBlock_218 (by decide) ?_
      obtain rfl := Option.some.inj h
      exact j_pret C hr d_Maker_meanOfBlock_245
set_option maxRecDepth 100000 in
set_option maxHeartbeats 4000000 in
theorem c_Maker_meanOfBlock (l : Launch) (D : va_G) (cI cR cZ : ClassId) (fu : Nat) (o0 : Nat) (hc : Nat) (hm : Nat) (hb : Nat) (a : (Nat → Nat)) (n : Nat) (col : (Nat → Int32)) (msk : (Nat → Int32)) (bare : (Nat → Int32)) (L : LyS) (p1 : Int32) (p2 : Int32) (p3 : Int32) (p4 : Int32) {res : Int32} (h : Maker_meanOfBlock fu n col msk bare L p1 p2 p3 p4 = some res) : Met l y_Maker_meanOfBlock (Cond.code y_Maker_meanOfBlock b_Maker_meanOfBlock 18 (some .int) :: BIG) rm_Maker_meanOfBlock (PcP [.ref o0, .int p1, .int p2, .int p3, .int p4] D (tyG cI cR cZ) (wMk cI cR o0 hc hm hb a n col msk bare L)) (QcP res) 0 0 no := by
  refine met_P (by decide) (Nat.le_of_ble_eq_true rfl) (fun p e s m args below meth c C hr => ?_)
  have C : Cx p s m args meth c D (tyG cI cR cZ) b_Maker_meanOfBlock 18 "MaskLayers$Maker" := C
  have hr : meth.sig.returnType = some .int := hr
  show J p l e rm_Maker_meanOfBlock s m args below meth c D no (fun _ => True) 18 (MQ below (QcP res) args s 0 0 no) 0 0 (wMk cI cR o0 hc hm hb a n col msk bare L) [(0, .ref o0), (1, .int p1), (2, .int p2), (3, .int p3), (4, .int p4)] [] 0
  unfold Maker_meanOfBlock at h
  refine j_aload_n C 0 d_Maker_meanOfBlock_0 rfl ?_
  refine gf_Maker_9 C 0 (v := .ref (a 0)) rfl rfl d_Maker_meanOfBlock_1 ?_
  refine gf_Maker_99 C 4 (v := .ref (a 7)) rfl rfl d_Maker_meanOfBlock_4 ?_
  refine j_iload_n C 2 d_Maker_meanOfBlock_7 rfl ?_
  obtain ⟨b1, h⟩ := gd_ok h
  refine j_iald C (11) (t0 := 0) rfl rfl b1 d_Maker_meanOfBlock_8 ?_
  refine j_istore C [(5, .int (L.2 5 p2.toNatClampNeg)), (0, .ref o0), (1, .int p1), (2, .int p2), (3, .int p3), (4, .int p4)] d_Maker_meanOfBlock_9 (by decide) rfl ?_
  refine j_aload_n C 1 d_Maker_meanOfBlock_11 rfl ?_
  refine gf_Maker_9 C 0 (v := .ref (a 0)) rfl rfl d_Maker_meanOfBlock_12 ?_
  refine j_iload_n C 2 d_Maker_meanOfBlock_15 rfl ?_
  obtain ⟨r2, hr2, h⟩ := bd_ok h
  refine j_PV C [.int p1] 4 rfl rfl (c_Layers_topOf l D cI cR cZ a n L p1 hr2) (cw_Maker_102 C ⟨Nat.le_of_ble_eq_true rfl, Nat.le_of_ble_eq_true rfl⟩) [4, 5, 6, 7, 8, 9, 10, 11, 12] rfl rfl rfl (Nat.le_of_ble_eq_true rfl) d_Maker_meanOfBlock_16 (by decide) ?_
  refine j_iload C 5 d_Maker_meanOfBlock_19 rfl ?_
  refine j_iload C 0 d_Maker_meanOfBlock_21 rfl ?_
  refine j_imul C d_Maker_meanOfBlock_23 ?_
  refine j_iadd C d_Maker_meanOfBlock_24 ?_
  refine j_istore C [(6, .int (r2 + (p4 * (L.2 5 p2.toNatClampNeg)))), (5, .int (L.2 5 p2.toNatClampNeg)), (0, .ref o0), (1, .int p1), (2, .int p2), (3, .int p3), (4, .int p4)] d_Maker_meanOfBlock_25 (by decide) rfl ?_
  refine j_iload C 0 d_Maker_meanOfBlock_27 rfl ?_
  refine j_iload C 1 d_Maker_meanOfBlock_29 rfl ?_
  refine j_iadd C d_Maker_meanOfBlock_31 ?_
  refine j_aload_n C 2 d_Maker_meanOfBlock_32 rfl ?_
  refine gf_Maker_9 C 0 (v := .ref (a 0)) rfl rfl d_Maker_meanOfBlock_33 ?_
  refine j_iload_n C 3 d_Maker_meanOfBlock_36 rfl ?_
  obtain ⟨r3, hr3, h⟩ := bd_ok h
  refine j_PV C [.int p1] 4 rfl rfl (c_Layers_bottomOf l D cI cR cZ a n L p1 hr3) (cw_Maker_105 C ⟨Nat.le_of_ble_eq_true rfl, Nat.le_of_ble_eq_true rfl⟩) [4, 5, 6, 7, 8, 9, 10, 11, 12] rfl rfl rfl (Nat.le_of_ble_eq_true rfl) d_Maker_meanOfBlock_37 (by decide) ?_
  refine j_mmin C mw_Maker_108 (Nat.le_of_ble_eq_true rfl) (Nat.le_of_ble_eq_true rfl) (by decide) d_Maker_meanOfBlock_40 ?_
  refine j_istore C [(7, .int (mn ((r2 + (p4 * (L.2 5 p2.toNatClampNeg))) + (L.2 5 p2.toNatClampNeg)) r3)), (6, .int (r2 + (p4 * (L.2 5 p2.toNatClampNeg)))), (5, .int (L.2 5 p2.toNatClampNeg)), (0, .ref o0), (1, .int p1), (2, .int p2), (3, .int p3), (4, .int p4)] d_Maker_meanOfBlock_43 (by decide) rfl ?_
  refine j_iload_n C 6 d_Maker_meanOfBlock_45 rfl ?_
  refine j_iload C 2 d_Maker_meanOfBlock_46 rfl ?_
  refine j_imul C d_Maker_meanOfBlock_48 ?_
  refine j_istore C [(8, .int (p3 * (L.2 5 p2.toNatClampNeg))), (7, .int (mn ((r2 + (p4 * (L.2 5 p2.toNatClampNeg))) + (L.2 5 p2.toNatClampNeg)) r3)), (6, .int (r2 + (p4 * (L.2 5 p2.toNatClampNeg)))), (5, .int (L.2 5 p2.toNatClampNeg)), (0, .ref o0), (1, .int p1), (2, .int p2), (3, .int p3), (4, .int p4)] d_Maker_meanOfBlock_49 (by decide) rfl ?_
  refine j_iload C 0 d_Maker_meanOfBlock_51 rfl ?_
  refine j_iload C 3 d_Maker_meanOfBlock_53 rfl ?_
  refine j_iadd C d_Maker_meanOfBlock_55 ?_
  refine j_aload_n C 4 d_Maker_meanOfBlock_56 rfl ?_
  refine gf_Maker_9 C 0 (v := .ref (a 0)) rfl rfl d_Maker_meanOfBlock_57 ?_
  refine gf_Maker_113 C 4 (v := .int (L.1 0)) rfl rfl d_Maker_meanOfBlock_60 ?_
  refine j_mmin C mw_Maker_108 (Nat.le_of_ble_eq_true rfl) (Nat.le_of_ble_eq_true rfl) (by decide) d_Maker_meanOfBlock_63 ?_
  refine j_istore C [(9, .int (mn ((p3 * (L.2 5 p2.toNatClampNeg)) + (L.2 5 p2.toNatClampNeg)) (L.1 0))), (8, .int (p3 * (L.2 5 p2.toNatClampNeg))), (7, .int (mn ((r2 + (p4 * (L.2 5 p2.toNatClampNeg))) + (L.2 5 p2.toNatClampNeg)) r3)), (6, .int (r2 + (p4 * (L.2 5 p2.toNatClampNeg)))), (5, .int (L.2 5 p2.toNatClampNeg)), (0, .ref o0), (1, .int p1), (2, .int p2), (3, .int p3), (4, .int p4)] d_Maker_meanOfBlock_66 (by decide) rfl ?_
  refine j_iload_n C 7 d_Maker_meanOfBlock_68 rfl ?_
  refine j_iconst C (v := 2) d_Maker_meanOfBlock_69 (by decide) ?_
  refine j_icmp_ne C 77 d_Maker_meanOfBlock_70 (by decide) (fun c23 => ?_) (fun c23 => ?_)
  · replace h := (if_neg c23).symm.trans h
    refine j_iconst C (v := 0) d_Maker_meanOfBlock_77 (by decide) ?_
    refine j_sub [5, 3, 2, 1, 0] rfl ?_
    exact t_Maker_meanOfBlock_b78 C hr h
  · replace h := (if_pos c23).symm.trans h
    refine j_iconst C (v := 1) d_Maker_meanOfBlock_73 (by decide) ?_
    refine j_goto C 78 d_Maker_meanOfBlock_74 (by decide) ?_
    refine j_sub [5, 3, 2, 1, 0] rfl ?_
    exact t_Maker_meanOfBlock_b78 C hr h
def Maker_takeMask_l22 (n : Nat) (col : (Nat → Int32)) (msk : (Nat → Int32)) (bare : (Nat → Int32)) (v3 : Int32) : Nat → Int32 → Int32 → LyS → Option (Nat × Int32 × LyS)
  | 0, _, _, _ => none
  | k + 1, v2, v4, L =>
  (if v3 ≤ v4 then some (0, v2, L)
  else gd 1 4 (gd v4 n (gd v4 n (gd v4 n (Maker_takeMask_l22 n col msk bare v3 k (v2 + (msk v4.toNatClampNeg)) (v4 + 1) (Ls L ((1 : Int32).toNatClampNeg) v4.toNatClampNeg (msk v4.toNatClampNeg)))))))
def Maker_takeMask (fu : Nat) (n : Nat) (col : (Nat → Int32)) (msk : (Nat → Int32)) (bare : (Nat → Int32)) (L : LyS) (p1 : Int32) : Option (Int32 × LyS) :=
  (Layers_endOf n L p1 1).bind fun r1 =>
  (Layers_startOf n L p1).bind fun r2 =>
  (Maker_takeMask_l22 n col msk bare r1 fu 0 r2 L).bind fun r8 =>
  some (r8.2.1, r8.2.2)
set_option maxRecDepth 100000 in
set_option maxHeartbeats 4000000 in
theorem t_Maker_takeMask_l22 {p : Program} {l : Launch} {e : Env} {s : State} {m : MethodId} {args : Array Value} {below : List Frame} {meth : Method} {c : Code} {D : va_G} {cI cR cZ : ClassId} {A : Nat → Prop} {Q : State → Prop} (C : Cx p s m args meth c D (tyG cI cR cZ) b_Maker_takeMask 5 "MaskLayers$Maker") (hA : ∀ q : Nat, s.heap.size ≤ q → A q) {o0 : Nat} {hc : Nat} {hm : Nat} {hb : Nat} {a : (Nat → Nat)} {n : Nat} {col : (Nat → Int32)} {msk : (Nat → Int32)} {bare : (Nat → Int32)} {v3 : Int32} {out : Nat × Int32 × LyS} : ∀ (k : Nat) (v2 : Int32) (v4 : Int32) (L : LyS), Maker_takeMask_l22 n col msk bare v3 k v2 v4 L = some out → (out.1 = 0 → J p l e rm_Maker_takeMask s m args below meth c D A (va_D A) 5 Q 0 0 (wMk cI cR o0 hc hm hb a n col msk bare out.2.2) [(2, .int out.2.1)] [] 63) → J p l e rm_Maker_takeMask s m args below meth c D A (va_D A) 5 Q 0 0 (wMk cI cR o0 hc hm hb a n col msk bare L) [(0, .ref o0), (2, .int v2), (3, .int v3), (4, .int v4)] [] 22 := by
  intro k
  induction k with
  | zero => intro v2 v4 L h; cases (show none = some out from h)
  | succ k ih =>
    intro v2 v4 L h x0
    rw [Maker_takeMask_l22] at h
    refine j_iload C 3 d_Maker_takeMask_22 rfl ?_
    refine j_iload_n C 2 d_Maker_takeMask_24 rfl ?_
    refine j_icmp_ge C 63 d_Maker_takeMask_25 (by decide) (fun c7 => ?_) (fun c7 => ?_)
    · replace h := (if_pos c7).symm.trans h
      obtain rfl := Option.some.inj h
      refine j_sub [1] rfl ?_
      exact x0 rfl
    · replace h := (if_neg c7).symm.trans h
      refine j_aload_n C 0 d_Maker_takeMask_28 rfl ?_
      refine gf_Maker_9 C 0 (v := .ref (a 0)) rfl rfl d_Maker_takeMask_29 ?_
      refine gf_Maker_85 C 4 (v := .ref (a 1)) rfl rfl d_Maker_takeMask_32 ?_
      refine j_iconst C (v := 1) d_Maker_takeMask_35 (by decide) ?_
      obtain ⟨b3, h⟩ := gd_ok h
      refine j_aald C 5 (t0 := 2) rfl rfl b3 d_Maker_takeMask_36 ?_
      refine j_iload C 3 d_Maker_takeMask_37 rfl ?_
      refine j_aload_n C 0 d_Maker_takeMask_39 rfl ?_
      refine gf_Maker_19 C 0 (v := .ref hm) rfl rfl d_Maker_takeMask_40 ?_
      refine j_iload C 3 d_Maker_takeMask_43 rfl ?_
      obtain ⟨b4, h⟩ := gd_ok h
      refine j_iald C (2) (t0 := 0) rfl rfl b4 d_Maker_takeMask_45 ?_
      obtain ⟨b5, h⟩ := gd_ok h
      refine j_iast C (6 + (1 : Int32).toNatClampNeg) (wMk cI cR o0 hc hm hb a n col msk bare (Ls L ((1 : Int32).toNatClampNeg) v4.toNatClampNeg (msk v4.toNatClampNeg))) (t0 := 0) (co_4 (P := fun k => (wMk cI cR o0 hc hm hb a n col msk bare L)[6 + k]? = some (a (2 + k), .inl (cI, n, .inl (L.2 k)))) rfl rfl rfl rfl (in_lt b3)) (co_4 (P := fun k => (wMk cI cR o0 hc hm hb a n col msk bare L).set (6 + k) (a (2 + k), .inl (cI, n, .inl (upd (L.2 k) v4.toNatClampNeg (msk v4.toNatClampNeg)))) = wMk cI cR o0 hc hm hb a n col msk bare (Ls L k v4.toNatClampNeg (msk v4.toNatClampNeg))) rfl rfl rfl rfl (in_lt b3)) rfl b5 d_Maker_takeMask_46 ?_
      refine j_iload_n C 1 d_Maker_takeMask_47 rfl ?_
      refine j_aload_n C 0 d_Maker_takeMask_48 rfl ?_
      refine gf_Maker_19 C 0 (v := .ref hm) rfl rfl d_Maker_takeMask_49 ?_
      refine j_iload C 3 d_Maker_takeMask_52 rfl ?_
      obtain ⟨b6, h⟩ := gd_ok h
      refine j_iald C (2) (t0 := 0) rfl rfl b6 d_Maker_takeMask_54 ?_
      refine j_iadd C d_Maker_takeMask_55 ?_
      refine j_istore_n C [(2, .int (v2 + (msk v4.toNatClampNeg))), (0, .ref o0), (3, .int v3), (4, .int v4)] d_Maker_takeMask_56 (by decide) rfl ?_
      refine j_iinc C [(4, .int (v4 + 1)), (2, .int (v2 + (msk v4.toNatClampNeg))), (0, .ref o0), (3, .int v3)] 3 (v4 + 1) d_Maker_takeMask_57 rfl rfl (by decide) rfl ?_
      refine j_goto C 22 d_Maker_takeMask_60 (by decide) ?_
      refine j_sub [2, 1, 3, 0] rfl ?_
      exact ih (v2 + (msk v4.toNatClampNeg)) (v4 + 1) (Ls L ((1 : Int32).toNatClampNeg) v4.toNatClampNeg (msk v4.toNatClampNeg)) h x0
set_option maxRecDepth 100000 in
set_option maxHeartbeats 4000000 in
theorem c_Maker_takeMask (l : Launch) (D : va_G) (cI cR cZ : ClassId) (fu : Nat) (o0 : Nat) (hc : Nat) (hm : Nat) (hb : Nat) (a : (Nat → Nat)) (n : Nat) (col : (Nat → Int32)) (msk : (Nat → Int32)) (bare : (Nat → Int32)) (L : LyS) (p1 : Int32) {res : (Int32 × LyS)} (h : Maker_takeMask fu n col msk bare L p1 = some res) (sz : Nat) : Met l y_Maker_takeMask (Cond.code y_Maker_takeMask b_Maker_takeMask 5 (some .int) :: BIG) rm_Maker_takeMask (PcI [.ref o0, .int p1] D (tyG cI cR cZ) (wMk cI cR o0 hc hm hb a n col msk bare L) sz) (QcI D res.1 (fun _ : Nat => wMk cI cR o0 hc hm hb a n col msk bare res.2) (va_A (wMk cI cR o0 hc hm hb a n col msk bare L) sz)) 0 0 (va_A (wMk cI cR o0 hc hm hb a n col msk bare L) sz) := by
  refine met_I (by decide) (Nat.le_of_ble_eq_true rfl) (fun p e s m args below meth c A hA C hr => ?_)
  have C : Cx p s m args meth c D (tyG cI cR cZ) b_Maker_takeMask 5 "MaskLayers$Maker" := C
  have hr : meth.sig.returnType = some .int := hr
  show J p l e rm_Maker_takeMask s m args below meth c D A (va_D A) 5 (MQ below (QcI D res.1 (fun _ : Nat => wMk cI cR o0 hc hm hb a n col msk bare res.2) A) args s 0 0 A) 0 0 (wMk cI cR o0 hc hm hb a n col msk bare L) [(0, .ref o0), (1, .int p1)] [] 0
  unfold Maker_takeMask at h
  refine j_iconst C (v := 0) d_Maker_takeMask_0 (by decide) ?_
  refine j_istore_n C [(2, .int 0), (0, .ref o0), (1, .int p1)] d_Maker_takeMask_1 (by decide) rfl ?_
  refine j_aload_n C 1 d_Maker_takeMask_2 rfl ?_
  refine gf_Maker_9 C 0 (v := .ref (a 0)) rfl rfl d_Maker_takeMask_3 ?_
  refine j_iload_n C 2 d_Maker_takeMask_6 rfl ?_
  refine j_iconst C (v := 1) d_Maker_takeMask_7 (by decide) ?_
  obtain ⟨r1, hr1, h⟩ := bd_ok h
  refine j_PV C [.int p1, .int 1] 4 rfl rfl (c_Layers_endOf l D cI cR cZ a n L p1 1 hr1) (cw_Maker_63 C ⟨Nat.le_of_ble_eq_true rfl, Nat.le_of_ble_eq_true rfl⟩) [4, 5, 6, 7, 8, 9, 10, 11, 12] rfl rfl rfl (Nat.le_of_ble_eq_true rfl) d_Maker_takeMask_8 (by decide) ?_
  refine j_istore_n C [(3, .int r1), (2, .int 0), (0, .ref o0), (1, .int p1)] d_Maker_takeMask_11 (by decide) rfl ?_
  refine j_aload_n C 2 d_Maker_takeMask_12 rfl ?_
  refine gf_Maker_9 C 0 (v := .ref (a 0)) rfl rfl d_Maker_takeMask_13 ?_
  refine j_iload_n C 3 d_Maker_takeMask_16 rfl ?_
  obtain ⟨r2, hr2, h⟩ := bd_ok h
  refine j_PV C [.int p1] 4 rfl rfl (c_Layers_startOf l D cI cR cZ a n L p1 hr2) (cw_Maker_67 C ⟨Nat.le_of_ble_eq_true rfl, Nat.le_of_ble_eq_true rfl⟩) [4, 5, 6, 7, 8, 9, 10, 11, 12] rfl rfl rfl (Nat.le_of_ble_eq_true rfl) d_Maker_takeMask_17 (by decide) ?_
  refine j_istore C [(4, .int r2), (3, .int r1), (2, .int 0), (0, .ref o0), (1, .int p1)] d_Maker_takeMask_20 (by decide) rfl ?_
  obtain ⟨r8, hr8, h⟩ := bd_ok h
  refine j_sub [3, 2, 1, 0] rfl ?_
  refine t_Maker_takeMask_l22 C hA fu 0 r2 L hr8 (fun e9 => ?_)
  · refine j_iload_n C 0 d_Maker_takeMask_63 rfl ?_
    obtain rfl := Option.some.inj h
    exact j_iret C hr d_Maker_takeMask_64 0 rfl
def Maker_makeBlocks_l58 (fu : Nat) (n : Nat) (col : (Nat → Int32)) (msk : (Nat → Int32)) (bare : (Nat → Int32)) (w3 : Nat) (v1 : Int32) (v2 : Int32) (v4 : Int32) (v5 : Int32) (v8 : Int32) : Nat → Int32 → Int32 → Int32 → LyS → Option (Nat × Int32 × Int32 × LyS)
  | 0, _, _, _, _ => none
  | k + 1, v6, v7, v9, L =>
  (if v5 ≤ v9 then some (0, v6, v7, L)
  else (Maker_meanOfBlock fu n col msk bare L v1 v2 v9 v8).bind fun r5 =>
  gd v6 n ((if v7 = ((-1)) then gd v6 n (Maker_makeBlocks_l58 fu n col msk bare w3 v1 v2 v4 v5 v8 k (v6 + 1) ((Ls L w3 v6.toNatClampNeg r5).2 w3 v6.toNatClampNeg) (v9 + 1) (Ls L w3 v6.toNatClampNeg r5))
  else Maker_makeBlocks_l58 fu n col msk bare w3 v1 v2 v4 v5 v8 k (v6 + 1) v7 (v9 + 1) (Ls L w3 v6.toNatClampNeg r5))))
def Maker_makeBlocks_l48 (fu : Nat) (n : Nat) (col : (Nat → Int32)) (msk : (Nat → Int32)) (bare : (Nat → Int32)) (w3 : Nat) (v1 : Int32) (v2 : Int32) (v4 : Int32) (v5 : Int32) : Nat → Int32 → Int32 → Int32 → LyS → Option (Nat × Int32 × LyS)
  | 0, _, _, _, _ => none
  | k + 1, v6, v7, v8, L =>
  (if v4 ≤ v8 then some (0, v7, L)
  else (Maker_makeBlocks_l58 fu n col msk bare w3 v1 v2 v4 v5 v8 fu v6 v7 0 L).bind fun r10 =>
  Maker_makeBlocks_l48 fu n col msk bare w3 v1 v2 v4 v5 k r10.2.1 r10.2.2.1 (v8 + 1) r10.2.2.2)
def Maker_makeBlocks (fu : Nat) (n : Nat) (col : (Nat → Int32)) (msk : (Nat → Int32)) (bare : (Nat → Int32)) (L : LyS) (p1 : Int32) (p2 : Int32) : Option (Int32 × LyS) :=
  gd p2 4 ((Layers_rowsOf n L p1 p2).bind fun r2 =>
  gd p2 4 ((Layers_startOf n L p1).bind fun r4 =>
  (Maker_makeBlocks_l48 fu n col msk bare p2.toNatClampNeg p1 p2 r2 (L.2 6 p2.toNatClampNeg) fu r4 ((-1)) 0 L).bind fun r13 =>
  some (r13.2.1, r13.2.2)))
set_option maxRecDepth 100000 in
set_option maxHeartbeats 4000000 in
theorem t_Maker_makeBlocks_l58 {p : Program} {l : Launch} {e : Env} {s : State} {m : MethodId} {args : Array Value} {below : List Frame} {meth : Method} {c : Code} {D : va_G} {cI cR cZ : ClassId} {A : Nat → Prop} {Q : State → Prop} (C : Cx p s m args meth c D (tyG cI cR cZ) b_Maker_makeBlocks 10 "MaskLayers$Maker") (hA : ∀ q : Nat, s.heap.size ≤ q → A q) {o0 : Nat} {hc : Nat} {hm : Nat} {hb : Nat} {a : (Nat → Nat)} {n : Nat} {fu : Nat} {col : (Nat → Int32)} {msk : (Nat → Int32)} {bare : (Nat → Int32)} {w3 : Nat} (hw3 : w3 < 4) {v1 : Int32} {v2 : Int32} {v4 : Int32} {v5 : Int32} {v8 : Int32} {out : Nat × Int32 × Int32 × LyS} : ∀ (k : Nat) (v6 : Int32) (v7 : Int32) (v9 : Int32) (L : LyS), Maker_makeBlocks_l58 fu n col msk bare w3 v1 v2 v4 v5 v8 k v6 v7 v9 L = some out → (out.1 = 0 → J p l e rm_Maker_makeBlocks s m args below meth c D A (va_D A) 10 Q 0 0 (wMk cI cR o0 hc hm hb a n col msk bare out.2.2.2) [(0, .ref o0), (1, .int v1), (2, .int v2), (3, .ref (a (2 + w3))), (4, .int v4), (5, .int v5), (6, .int out.2.1), (7, .int out.2.2.1), (8, .int v8)] [] 105) → J p l e rm_Maker_makeBlocks s m args below meth c D A (va_D A) 10 Q 0 0 (wMk cI cR o0 hc hm hb a n col msk bare L) [(0, .ref o0), (1, .int v1), (2, .int v2), (3, .ref (a (2 + w3))), (4, .int v4), (5, .int v5), (6, .int v6), (7, .int v7), (8, .int v8), (9, .int v9)] [] 58 := by
  intro k
  induction k with
  | zero => intro v6 v7 v9 L h; cases (show none = some out from h)
  | succ k ih =>
    intro v6 v7 v9 L h x0
    rw [Maker_makeBlocks_l58] at h
    refine j_iload C 9 d_Maker_makeBlocks_58 rfl ?_
    refine j_iload C 5 d_Maker_makeBlocks_60 rfl ?_
    refine j_icmp_ge C 105 d_Maker_makeBlocks_62 (by decide) (fun c9 => ?_) (fun c9 => ?_)
    · replace h := (if_pos c9).symm.trans h
      obtain rfl := Option.some.inj h
      refine j_sub [0, 1, 2, 3, 4, 5, 6, 7, 8] rfl ?_
      exact x0 rfl
    · replace h := (if_neg c9).symm.trans h
      refine j_aload_n C 3 d_Maker_makeBlocks_65 rfl ?_
      refine j_iload C 6 d_Maker_makeBlocks_66 rfl ?_
      refine j_aload_n C 0 d_Maker_makeBlocks_68 rfl ?_
      refine j_iload_n C 1 d_Maker_makeBlocks_69 rfl ?_
      refine j_iload_n C 2 d_Maker_makeBlocks_70 rfl ?_
      refine j_iload C 9 d_Maker_makeBlocks_71 rfl ?_
      refine j_iload C 8 d_Maker_makeBlocks_73 rfl ?_
      obtain ⟨r5, hr5, h⟩ := bd_ok h
      refine j_PV C [.int v1, .int v2, .int v9, .int v8] 0 rfl rfl (c_Maker_meanOfBlock l D cI cR cZ fu o0 hc hm hb a n col msk bare L v1 v2 v9 v8 hr5) (cw_Maker_95 C ⟨Nat.le_of_ble_eq_true rfl, Nat.le_of_ble_eq_true rfl⟩) [0, 1, 2, 3, 4, 5, 6, 7, 8, 9, 10, 11, 12] rfl rfl rfl (Nat.le_of_ble_eq_true rfl) d_Maker_makeBlocks_75 (by decide) ?_
      obtain ⟨b6, h⟩ := gd_ok h
      refine j_iast C (6 + w3) (wMk cI cR o0 hc hm hb a n col msk bare (Ls L w3 v6.toNatClampNeg r5)) (t0 := 0) (co_4 (P := fun k => (wMk cI cR o0 hc hm hb a n col msk bare L)[6 + k]? = some (a (2 + k), .inl (cI, n, .inl (L.2 k)))) rfl rfl rfl rfl hw3) (co_4 (P := fun k => (wMk cI cR o0 hc hm hb a n col msk bare L).set (6 + k) (a (2 + k), .inl (cI, n, .inl (upd (L.2 k) v6.toNatClampNeg r5))) = wMk cI cR o0 hc hm hb a n col msk bare (Ls L k v6.toNatClampNeg r5)) rfl rfl rfl rfl hw3) rfl b6 d_Maker_makeBlocks_78 ?_
      refine j_iload C 7 d_Maker_makeBlocks_79 rfl ?_
      refine j_iconst C (v := (-1)) d_Maker_makeBlocks_81 (by decide) ?_
      refine j_icmp_ne C 92 d_Maker_makeBlocks_82 (by decide) (fun c8 => ?_) (fun c8 => ?_)
      · replace h := (if_neg c8).symm.trans h
        refine j_iload C 7 d_Maker_makeBlocks_92 rfl ?_
        refine j_istore C [(7, .int v7), (0, .ref o0), (1, .int v1), (2, .int v2), (3, .ref (a (2 + w3))), (4, .int v4), (5, .int v5), (6, .int v6), (8, .int v8), (9, .int v9)] d_Maker_makeBlocks_94 (by decide) rfl ?_
        refine j_iinc C [(6, .int (v6 + 1)), (7, .int v7), (0, .ref o0), (1, .int v1), (2, .int v2), (3, .ref (a (2 + w3))), (4, .int v4), (5, .int v5), (8, .int v8), (9, .int v9)] 7 (v6 + 1) d_Maker_makeBlocks_96 rfl rfl (by decide) rfl ?_
        refine j_iinc C [(9, .int (v9 + 1)), (6, .int (v6 + 1)), (7, .int v7), (0, .ref o0), (1, .int v1), (2, .int v2), (3, .ref (a (2 + w3))), (4, .int v4), (5, .int v5), (8, .int v8)] 9 (v9 + 1) d_Maker_makeBlocks_99 rfl rfl (by decide) rfl ?_
        refine j_goto C 58 d_Maker_makeBlocks_102 (by decide) ?_
        refine j_sub [3, 4, 5, 6, 7, 8, 1, 2, 9, 0] rfl ?_
        exact ih (v6 + 1) v7 (v9 + 1) (Ls L w3 v6.toNatClampNeg r5) h x0
      · replace h := (if_pos c8).symm.trans h
        refine j_aload_n C 3 d_Maker_makeBlocks_85 rfl ?_
        refine j_iload C 6 d_Maker_makeBlocks_86 rfl ?_
        obtain ⟨b7, h⟩ := gd_ok h
        refine j_iald C (6 + w3) (t0 := 0) (co_4 (P := fun k => (wMk cI cR o0 hc hm hb a n col msk bare (Ls L w3 v6.toNatClampNeg r5))[6 + k]? = some (a (2 + k), .inl (cI, n, .inl ((Ls L w3 v6.toNatClampNeg r5).2 k)))) rfl rfl rfl rfl hw3) rfl b7 d_Maker_makeBlocks_88 ?_
        refine j_goto C 94 d_Maker_makeBlocks_89 (by decide) ?_
        refine j_istore C [(7, .int ((Ls L w3 v6.toNatClampNeg r5).2 w3 v6.toNatClampNeg)), (0, .ref o0), (1, .int v1), (2, .int v2), (3, .ref (a (2 + w3))), (4, .int v4), (5, .int v5), (6, .int v6), (8, .int v8), (9, .int v9)] d_Maker_makeBlocks_94 (by decide) rfl ?_
        refine j_iinc C [(6, .int (v6 + 1)), (7, .int ((Ls L w3 v6.toNatClampNeg r5).2 w3 v6.toNatClampNeg)), (0, .ref o0), (1, .int v1), (2, .int v2), (3, .ref (a (2 + w3))), (4, .int v4), (5, .int v5), (8, .int v8), (9, .int v9)] 7 (v6 + 1) d_Maker_makeBlocks_96 rfl rfl (by decide) rfl ?_
        refine j_iinc C [(9, .int (v9 + 1)), (6, .int (v6 + 1)), (7, .int ((Ls L w3 v6.toNatClampNeg r5).2 w3 v6.toNatClampNeg)), (0, .ref o0), (1, .int v1), (2, .int v2), (3, .ref (a (2 + w3))), (4, .int v4), (5, .int v5), (8, .int v8)] 9 (v9 + 1) d_Maker_makeBlocks_99 rfl rfl (by decide) rfl ?_
        refine j_goto C 58 d_Maker_makeBlocks_102 (by decide) ?_
        refine j_sub [3, 4, 5, 6, 7, 8, 1, 2, 9, 0] rfl ?_
        exact ih (v6 + 1) ((Ls L w3 v6.toNatClampNeg r5).2 w3 v6.toNatClampNeg) (v9 + 1) (Ls L w3 v6.toNatClampNeg r5) h x0
set_option maxRecDepth 100000 in
set_option maxHeartbeats 4000000 in
theorem t_Maker_makeBlocks_l48 {p : Program} {l : Launch} {e : Env} {s : State} {m : MethodId} {args : Array Value} {below : List Frame} {meth : Method} {c : Code} {D : va_G} {cI cR cZ : ClassId} {A : Nat → Prop} {Q : State → Prop} (C : Cx p s m args meth c D (tyG cI cR cZ) b_Maker_makeBlocks 10 "MaskLayers$Maker") (hA : ∀ q : Nat, s.heap.size ≤ q → A q) {o0 : Nat} {hc : Nat} {hm : Nat} {hb : Nat} {a : (Nat → Nat)} {n : Nat} {fu : Nat} {col : (Nat → Int32)} {msk : (Nat → Int32)} {bare : (Nat → Int32)} {w3 : Nat} (hw3 : w3 < 4) {v1 : Int32} {v2 : Int32} {v4 : Int32} {v5 : Int32} {out : Nat × Int32 × LyS} : ∀ (k : Nat) (v6 : Int32) (v7 : Int32) (v8 : Int32) (L : LyS), Maker_makeBlocks_l48 fu n col msk bare w3 v1 v2 v4 v5 k v6 v7 v8 L = some out → (out.1 = 0 → J p l e rm_Maker_makeBlocks s m args below meth c D A (va_D A) 10 Q 0 0 (wMk cI cR o0 hc hm hb a n col msk bare out.2.2) [(7, .int out.2.1)] [] 111) → J p l e rm_Maker_makeBlocks s m args below meth c D A (va_D A) 10 Q 0 0 (wMk cI cR o0 hc hm hb a n col msk bare L) [(0, .ref o0), (1, .int v1), (2, .int v2), (3, .ref (a (2 + w3))), (4, .int v4), (5, .int v5), (6, .int v6), (7, .int v7), (8, .int v8)] [] 48 := by
  intro k
  induction k with
  | zero => intro v6 v7 v8 L h; cases (show none = some out from h)
  | succ k ih =>
    intro v6 v7 v8 L h x0
    rw [Maker_makeBlocks_l48] at h
    refine j_iload C 8 d_Maker_makeBlocks_48 rfl ?_
    refine j_iload C 4 d_Maker_makeBlocks_50 rfl ?_
    refine j_icmp_ge C 111 d_Maker_makeBlocks_52 (by decide) (fun c12 => ?_) (fun c12 => ?_)
    · replace h := (if_pos c12).symm.trans h
      obtain rfl := Option.some.inj h
      refine j_sub [7] rfl ?_
      exact x0 rfl
    · replace h := (if_neg c12).symm.trans h
      refine j_iconst C (v := 0) d_Maker_makeBlocks_55 (by decide) ?_
      refine j_istore C [(9, .int 0), (0, .ref o0), (1, .int v1), (2, .int v2), (3, .ref (a (2 + w3))), (4, .int v4), (5, .int v5), (6, .int v6), (7, .int v7), (8, .int v8)] d_Maker_makeBlocks_56 (by decide) rfl ?_
      obtain ⟨r10, hr10, h⟩ := bd_ok h
      refine j_sub [1, 2, 3, 4, 5, 6, 7, 8, 9, 0] rfl ?_
      refine t_Maker_makeBlocks_l58 C hA hw3 fu v6 v7 0 L hr10 (fun e11 => ?_)
      · refine j_iinc C [(8, .int (v8 + 1)), (0, .ref o0), (1, .int v1), (2, .int v2), (3, .ref (a (2 + w3))), (4, .int v4), (5, .int v5), (6, .int r10.2.1), (7, .int r10.2.2.1)] 8 (v8 + 1) d_Maker_makeBlocks_105 rfl rfl (by decide) rfl ?_
        refine j_goto C 48 d_Maker_makeBlocks_108 (by decide) ?_
        refine j_sub [1, 2, 3, 4, 5, 6, 7, 8, 0] rfl ?_
        exact ih r10.2.1 r10.2.2.1 (v8 + 1) r10.2.2.2 h x0
set_option maxRecDepth 100000 in
set_option maxHeartbeats 4000000 in
theorem c_Maker_makeBlocks (l : Launch) (D : va_G) (cI cR cZ : ClassId) (fu : Nat) (o0 : Nat) (hc : Nat) (hm : Nat) (hb : Nat) (a : (Nat → Nat)) (n : Nat) (col : (Nat → Int32)) (msk : (Nat → Int32)) (bare : (Nat → Int32)) (L : LyS) (p1 : Int32) (p2 : Int32) {res : (Int32 × LyS)} (h : Maker_makeBlocks fu n col msk bare L p1 p2 = some res) (sz : Nat) : Met l y_Maker_makeBlocks (Cond.code y_Maker_makeBlocks b_Maker_makeBlocks 10 (some .int) :: BIG) rm_Maker_makeBlocks (PcI [.ref o0, .int p1, .int p2] D (tyG cI cR cZ) (wMk cI cR o0 hc hm hb a n col msk bare L) sz) (QcI D res.1 (fun _ : Nat => wMk cI cR o0 hc hm hb a n col msk bare res.2) (va_A (wMk cI cR o0 hc hm hb a n col msk bare L) sz)) 0 0 (va_A (wMk cI cR o0 hc hm hb a n col msk bare L) sz) := by
  refine met_I (by decide) (Nat.le_of_ble_eq_true rfl) (fun p e s m args below meth c A hA C hr => ?_)
  have C : Cx p s m args meth c D (tyG cI cR cZ) b_Maker_makeBlocks 10 "MaskLayers$Maker" := C
  have hr : meth.sig.returnType = some .int := hr
  show J p l e rm_Maker_makeBlocks s m args below meth c D A (va_D A) 10 (MQ below (QcI D res.1 (fun _ : Nat => wMk cI cR o0 hc hm hb a n col msk bare res.2) A) args s 0 0 A) 0 0 (wMk cI cR o0 hc hm hb a n col msk bare L) [(0, .ref o0), (1, .int p1), (2, .int p2)] [] 0
  unfold Maker_makeBlocks at h
  refine j_aload_n C 0 d_Maker_makeBlocks_0 rfl ?_
  refine gf_Maker_9 C 0 (v := .ref (a 0)) rfl rfl d_Maker_makeBlocks_1 ?_
  refine gf_Maker_85 C 4 (v := .ref (a 1)) rfl rfl d_Maker_makeBlocks_4 ?_
  refine j_iload_n C 2 d_Maker_makeBlocks_7 rfl ?_
  obtain ⟨b1, h⟩ := gd_ok h
  refine j_aald C 5 (t0 := 2) rfl rfl b1 d_Maker_makeBlocks_8 ?_
  refine j_astore_n C [(3, .ref (a (2 + p2.toNatClampNeg))), (0, .ref o0), (1, .int p1), (2, .int p2)] d_Maker_makeBlocks_9 (by decide) rfl ?_
  refine j_aload_n C 1 d_Maker_makeBlocks_10 rfl ?_
  refine gf_Maker_9 C 0 (v := .ref (a 0)) rfl rfl d_Maker_makeBlocks_11 ?_
  refine j_iload_n C 2 d_Maker_makeBlocks_14 rfl ?_
  refine j_iload_n C 3 d_Maker_makeBlocks_15 rfl ?_
  obtain ⟨r2, hr2, h⟩ := bd_ok h
  refine j_PV C [.int p1, .int p2] 4 rfl rfl (c_Layers_rowsOf l D cI cR cZ a n L p1 p2 hr2) (cw_Maker_89 C ⟨Nat.le_of_ble_eq_true rfl, Nat.le_of_ble_eq_true rfl⟩) [4, 5, 6, 7, 8, 9, 10, 11, 12] rfl rfl rfl (Nat.le_of_ble_eq_true rfl) d_Maker_makeBlocks_16 (by decide) ?_
  refine j_istore C [(4, .int r2), (3, .ref (a (2 + p2.toNatClampNeg))), (0, .ref o0), (1, .int p1), (2, .int p2)] d_Maker_makeBlocks_19 (by decide) rfl ?_
  refine j_aload_n C 2 d_Maker_makeBlocks_21 rfl ?_
  refine gf_Maker_9 C 0 (v := .ref (a 0)) rfl rfl d_Maker_makeBlocks_22 ?_
  refine gf_Maker_92 C 4 (v := .ref (a 8)) rfl rfl d_Maker_makeBlocks_25 ?_
  refine j_iload_n C 4 d_Maker_makeBlocks_28 rfl ?_
  obtain ⟨b3, h⟩ := gd_ok h
  refine j_iald C (12) (t0 := 0) rfl rfl b3 d_Maker_makeBlocks_29 ?_
  refine j_istore C [(5, .int (L.2 6 p2.toNatClampNeg)), (4, .int r2), (3, .ref (a (2 + p2.toNatClampNeg))), (0, .ref o0), (1, .int p1), (2, .int p2)] d_Maker_makeBlocks_30 (by decide) rfl ?_
  refine j_aload_n C 3 d_Maker_makeBlocks_32 rfl ?_
  refine gf_Maker_9 C 0 (v := .ref (a 0)) rfl rfl d_Maker_makeBlocks_33 ?_
  refine j_iload_n C 4 d_Maker_makeBlocks_36 rfl ?_
  obtain ⟨r4, hr4, h⟩ := bd_ok h
  refine j_PV C [.int p1] 4 rfl rfl (c_Layers_startOf l D cI cR cZ a n L p1 hr4) (cw_Maker_67 C ⟨Nat.le_of_ble_eq_true rfl, Nat.le_of_ble_eq_true rfl⟩) [4, 5, 6, 7, 8, 9, 10, 11, 12] rfl rfl rfl (Nat.le_of_ble_eq_true rfl) d_Maker_makeBlocks_37 (by decide) ?_
  refine j_istore C [(6, .int r4), (5, .int (L.2 6 p2.toNatClampNeg)), (4, .int r2), (3, .ref (a (2 + p2.toNatClampNeg))), (0, .ref o0), (1, .int p1), (2, .int p2)] d_Maker_makeBlocks_40 (by decide) rfl ?_
  refine j_iconst C (v := (-1)) d_Maker_makeBlocks_42 (by decide) ?_
  refine j_istore C [(7, .int ((-1))), (6, .int r4), (5, .int (L.2 6 p2.toNatClampNeg)), (4, .int r2), (3, .ref (a (2 + p2.toNatClampNeg))), (0, .ref o0), (1, .int p1), (2, .int p2)] d_Maker_makeBlocks_43 (by decide) rfl ?_
  refine j_iconst C (v := 0) d_Maker_makeBlocks_45 (by decide) ?_
  refine j_istore C [(8, .int 0), (7, .int ((-1))), (6, .int r4), (5, .int (L.2 6 p2.toNatClampNeg)), (4, .int r2), (3, .ref (a (2 + p2.toNatClampNeg))), (0, .ref o0), (1, .int p1), (2, .int p2)] d_Maker_makeBlocks_46 (by decide) rfl ?_
  obtain ⟨r13, hr13, h⟩ := bd_ok h
  refine j_sub [6, 7, 8, 5, 4, 3, 2, 1, 0] rfl ?_
  refine t_Maker_makeBlocks_l48 C hA (in_lt b1) fu r4 ((-1)) 0 L hr13 (fun e14 => ?_)
  · refine j_iload C 0 d_Maker_makeBlocks_111 rfl ?_
    obtain rfl := Option.some.inj h
    exact j_iret C hr d_Maker_makeBlocks_113 0 rfl
end
section
def Maker_fillBlocks_l56 (n : Nat) (col : (Nat → Int32)) (msk : (Nat → Int32)) (w4 : Nat) (v2 : Int32) (v3 : Int32) (v5 : Int32) (v6 : Int32) (v8 : Int32) : Nat → Int32 → Int32 → (Nat → Int32) → LyS → Option (Nat × Int32 × (Nat → Int32) × LyS)
  | 0, _, _, _, _ => none
  | k + 1, v7, v9, bare, L =>
  (if v6 ≤ v9 then some (0, v7, bare, L)
  else gd v7 n ((if (L.2 w4 v7.toNatClampNeg) = ((-1)) then (if v9 ≤ 0 then (if v8 ≤ 0 then (Maker_fillBetween ((-1)) ((-1)) v3).bind fun r6 =>
  gd v7 n (gd v7 n (gd v7 n (Maker_fillBlocks_l56 n col msk w4 v2 v3 v5 v6 v8 k (v7 + 1) (v9 + 1) (upd bare v7.toNatClampNeg ((bare v7.toNatClampNeg) ||| ((1 : Int32) <<< (v2 &&& 31)))) (Ls L w4 v7.toNatClampNeg r6))))
  else gd (v7 - v6) n ((Maker_fillBetween ((-1)) (L.2 w4 ((v7 - v6).toNatClampNeg)) v3).bind fun r11 =>
  gd v7 n (gd v7 n (gd v7 n (Maker_fillBlocks_l56 n col msk w4 v2 v3 v5 v6 v8 k (v7 + 1) (v9 + 1) (upd bare v7.toNatClampNeg ((bare v7.toNatClampNeg) ||| ((1 : Int32) <<< (v2 &&& 31)))) (Ls L w4 v7.toNatClampNeg r11))))))
  else gd (v7 - 1) n ((if v8 ≤ 0 then (Maker_fillBetween (L.2 w4 ((v7 - 1).toNatClampNeg)) ((-1)) v3).bind fun r17 =>
  gd v7 n (gd v7 n (gd v7 n (Maker_fillBlocks_l56 n col msk w4 v2 v3 v5 v6 v8 k (v7 + 1) (v9 + 1) (upd bare v7.toNatClampNeg ((bare v7.toNatClampNeg) ||| ((1 : Int32) <<< (v2 &&& 31)))) (Ls L w4 v7.toNatClampNeg r17))))
  else gd (v7 - v6) n ((Maker_fillBetween (L.2 w4 ((v7 - 1).toNatClampNeg)) (L.2 w4 ((v7 - v6).toNatClampNeg)) v3).bind fun r22 =>
  gd v7 n (gd v7 n (gd v7 n (Maker_fillBlocks_l56 n col msk w4 v2 v3 v5 v6 v8 k (v7 + 1) (v9 + 1) (upd bare v7.toNatClampNeg ((bare v7.toNatClampNeg) ||| ((1 : Int32) <<< (v2 &&& 31)))) (Ls L w4 v7.toNatClampNeg r22))))))))
  else Maker_fillBlocks_l56 n col msk w4 v2 v3 v5 v6 v8 k (v7 + 1) (v9 + 1) bare L)))
def Maker_fillBlocks_l46 (fu : Nat) (n : Nat) (col : (Nat → Int32)) (msk : (Nat → Int32)) (w4 : Nat) (v2 : Int32) (v3 : Int32) (v5 : Int32) (v6 : Int32) : Nat → Int32 → Int32 → (Nat → Int32) → LyS → Option (Nat × (Nat → Int32) × LyS)
  | 0, _, _, _, _ => none
  | k + 1, v7, v8, bare, L =>
  (if v5 ≤ v8 then some (0, bare, L)
  else (Maker_fillBlocks_l56 n col msk w4 v2 v3 v5 v6 v8 fu v7 0 bare L).bind fun r30 =>
  Maker_fillBlocks_l46 fu n col msk w4 v2 v3 v5 v6 k r30.2.1 (v8 + 1) r30.2.2.1 r30.2.2.2)
def Maker_fillBlocks (fu : Nat) (n : Nat) (col : (Nat → Int32)) (msk : (Nat → Int32)) (bare : (Nat → Int32)) (L : LyS) (p1 : Int32) (p2 : Int32) (p3 : Int32) : Option ((Nat → Int32) × LyS) :=
  gd p2 4 ((Layers_rowsOf n L p1 p2).bind fun r2 =>
  gd p2 4 ((Layers_startOf n L p1).bind fun r4 =>
  (Maker_fillBlocks_l46 fu n col msk p2.toNatClampNeg p2 p3 r2 (L.2 6 p2.toNatClampNeg) fu r4 0 bare L).bind fun r33 =>
  some (r33.2.1, r33.2.2)))
set_option maxRecDepth 100000 in
set_option maxHeartbeats 4000000 in
theorem t_Maker_fillBlocks_l56 {p : Program} {l : Launch} {e : Env} {s : State} {m : MethodId} {args : Array Value} {below : List Frame} {meth : Method} {c : Code} {D : va_G} {cI cR cZ : ClassId} {A : Nat → Prop} {Q : State → Prop} (C : Cx p s m args meth c D (tyG cI cR cZ) b_Maker_fillBlocks 12 "MaskLayers$Maker") (hA : ∀ q : Nat, s.heap.size ≤ q → A q) {o0 : Nat} {hc : Nat} {hm : Nat} {hb : Nat} {a : (Nat → Nat)} {n : Nat} {col : (Nat → Int32)} {msk : (Nat → Int32)} {w4 : Nat} (hw4 : w4 < 4) {v2 : Int32} {v3 : Int32} {v5 : Int32} {v6 : Int32} {v8 : Int32} {out : Nat × Int32 × (Nat → Int32) × LyS} : ∀ (k : Nat) (v7 : Int32) (v9 : Int32) (bare : (Nat → Int32)) (L : LyS), Maker_fillBlocks_l56 n col msk w4 v2 v3 v5 v6 v8 k v7 v9 bare L = some out → (out.1 = 0 → J p l e rm_Maker_fillBlocks s m args below meth c D A (va_D A) 12 Q 0 0 (wMk cI cR o0 hc hm hb a n col msk out.2.2.1 out.2.2.2) [(0, .ref o0), (2, .int v2), (3, .int v3), (4, .ref (a (2 + w4))), (5, .int v5), (6, .int v6), (7, .int out.2.1), (8, .int v8)] [] 144) → J p l e rm_Maker_fillBlocks s m args below meth c D A (va_D A) 12 Q 0 0 (wMk cI cR o0 hc hm hb a n col msk bare L) [(0, .ref o0), (2, .int v2), (3, .int v3), (4, .ref (a (2 + w4))), (5, .int v5), (6, .int v6), (7, .int v7), (8, .int v8), (9, .int v9)] [] 56 := by
  intro k
  induction k with
  | zero => intro v7 v9 bare L h; cases (show none = some out from h)
  | succ k ih =>
    intro v7 v9 bare L h x0
    rw [Maker_fillBlocks_l56] at h
    refine j_iload C 8 d_Maker_fillBlocks_56 rfl ?_
    refine j_iload C 5 d_Maker_fillBlocks_58 rfl ?_
    refine j_icmp_ge C 144 d_Maker_fillBlocks_60 (by decide) (fun c29 => ?_) (fun c29 => ?_)
    · replace h := (if_pos c29).symm.trans h
      obtain rfl := Option.some.inj h
      refine j_sub [0, 1, 2, 3, 4, 5, 6, 7] rfl ?_
      exact x0 rfl
    · replace h := (if_neg c29).symm.trans h
      refine j_aload C 3 d_Maker_fillBlocks_63 rfl ?_
      refine j_iload C 6 d_Maker_fillBlocks_65 rfl ?_
      obtain ⟨b5, h⟩ := gd_ok h
      refine j_iald C (6 + w4) (t0 := 0) (co_4 (P := fun k => (wMk cI cR o0 hc hm hb a n col msk bare L)[6 + k]? = some (a (2 + k), .inl (cI, n, .inl (L.2 k)))) rfl rfl rfl rfl hw4) rfl b5 d_Maker_fillBlocks_67 ?_
      refine j_iconst C (v := (-1)) d_Maker_fillBlocks_68 (by decide) ?_
      refine j_icmp_ne C 135 d_Maker_fillBlocks_69 (by decide) (fun c28 => ?_) (fun c28 => ?_)
      · replace h := (if_neg c28).symm.trans h
        refine j_iinc C [(7, .int (v7 + 1)), (0, .ref o0), (2, .int v2), (3, .int v3), (4, .ref (a (2 + w4))), (5, .int v5), (6, .int v6), (8, .int v8), (9, .int v9)] 6 (v7 + 1) d_Maker_fillBlocks_135 rfl rfl (by decide) rfl ?_
        refine j_iinc C [(9, .int (v9 + 1)), (7, .int (v7 + 1)), (0, .ref o0), (2, .int v2), (3, .int v3), (4, .ref (a (2 + w4))), (5, .int v5), (6, .int v6), (8, .int v8)] 8 (v9 + 1) d_Maker_fillBlocks_138 rfl rfl (by decide) rfl ?_
        refine j_goto C 56 d_Maker_fillBlocks_141 (by decide) ?_
        refine j_sub [2, 3, 4, 5, 6, 7, 1, 8, 0] rfl ?_
        exact ih (v7 + 1) (v9 + 1) bare L h x0
      · replace h := (if_pos c28).symm.trans h
        refine j_iload C 8 d_Maker_fillBlocks_72 rfl ?_
        refine j_if_le C 87 d_Maker_fillBlocks_74 (by decide) (fun c27 => ?_) (fun c27 => ?_)
        · replace h := (if_pos c27).symm.trans h
          refine j_iconst C (v := (-1)) d_Maker_fillBlocks_87 (by decide) ?_
          refine j_istore C [(10, .int ((-1))), (0, .ref o0), (2, .int v2), (3, .int v3), (4, .ref (a (2 + w4))), (5, .int v5), (6, .int v6), (7, .int v7), (8, .int v8), (9, .int v9)] d_Maker_fillBlocks_88 (by decide) rfl ?_
          refine j_iload C 8 d_Maker_fillBlocks_90 rfl ?_
          refine j_if_le C 106 d_Maker_fillBlocks_92 (by decide) (fun c15 => ?_) (fun c15 => ?_)
          · replace h := (if_pos c15).symm.trans h
            refine j_iconst C (v := (-1)) d_Maker_fillBlocks_106 (by decide) ?_
            refine j_istore C [(11, .int ((-1))), (10, .int ((-1))), (0, .ref o0), (2, .int v2), (3, .int v3), (4, .ref (a (2 + w4))), (5, .int v5), (6, .int v6), (7, .int v7), (8, .int v8), (9, .int v9)] d_Maker_fillBlocks_107 (by decide) rfl ?_
            refine j_aload C 5 d_Maker_fillBlocks_109 rfl ?_
            refine j_iload C 8 d_Maker_fillBlocks_111 rfl ?_
            refine j_iload C 1 d_Maker_fillBlocks_113 rfl ?_
            refine j_iload C 0 d_Maker_fillBlocks_115 rfl ?_
            refine j_iload_n C 4 d_Maker_fillBlocks_117 rfl ?_
            obtain ⟨r6, hr6, h⟩ := bd_ok h
            refine j_PS C [.int ((-1)), .int ((-1)), .int v3] (c_Maker_fillBetween l D cI cR cZ ((-1)) ((-1)) v3 hr6) (cw_Maker_131 C ⟨Nat.le_of_ble_eq_true rfl, Nat.le_of_ble_eq_true rfl⟩) [] rfl rfl rfl (Nat.le_of_ble_eq_true rfl) d_Maker_fillBlocks_118 (by decide) ?_
            obtain ⟨b7, h⟩ := gd_ok h
            refine j_iast C (6 + w4) (wMk cI cR o0 hc hm hb a n col msk bare (Ls L w4 v7.toNatClampNeg r6)) (t0 := 0) (co_4 (P := fun k => (wMk cI cR o0 hc hm hb a n col msk bare L)[6 + k]? = some (a (2 + k), .inl (cI, n, .inl (L.2 k)))) rfl rfl rfl rfl hw4) (co_4 (P := fun k => (wMk cI cR o0 hc hm hb a n col msk bare L).set (6 + k) (a (2 + k), .inl (cI, n, .inl (upd (L.2 k) v7.toNatClampNeg r6))) = wMk cI cR o0 hc hm hb a n col msk bare (Ls L k v7.toNatClampNeg r6)) rfl rfl rfl rfl hw4) rfl b7 d_Maker_fillBlocks_121 ?_
            refine j_aload_n C 2 d_Maker_fillBlocks_122 rfl ?_
            refine gf_Maker_22 C 0 (v := .ref hb) rfl rfl d_Maker_fillBlocks_123 ?_
            refine j_iload C 8 d_Maker_fillBlocks_126 rfl ?_
            refine j_dup2 C d_Maker_fillBlocks_128 rfl rfl ?_
            obtain ⟨b8, h⟩ := gd_ok h
            refine j_iald C (3) (t0 := 0) rfl rfl b8 d_Maker_fillBlocks_129 ?_
            refine j_iconst C (v := 1) d_Maker_fillBlocks_130 (by decide) ?_
            refine j_iload_n C 3 d_Maker_fillBlocks_131 rfl ?_
            refine j_ishl C d_Maker_fillBlocks_132 ?_
            refine j_ior C d_Maker_fillBlocks_133 ?_
            obtain ⟨b9, h⟩ := gd_ok h
            refine j_iast C (3) (wMk cI cR o0 hc hm hb a n col msk (upd bare v7.toNatClampNeg ((bare v7.toNatClampNeg) ||| ((1 : Int32) <<< (v2 &&& 31)))) (Ls L w4 v7.toNatClampNeg r6)) (t0 := 0) rfl rfl rfl b9 d_Maker_fillBlocks_134 ?_
            refine j_iinc C [(7, .int (v7 + 1)), (11, .int ((-1))), (10, .int ((-1))), (0, .ref o0), (2, .int v2), (3, .int v3), (4, .ref (a (2 + w4))), (5, .int v5), (6, .int v6), (8, .int v8), (9, .int v9)] 8 (v7 + 1) d_Maker_fillBlocks_135 rfl rfl (by decide) rfl ?_
            refine j_iinc C [(9, .int (v9 + 1)), (7, .int (v7 + 1)), (11, .int ((-1))), (10, .int ((-1))), (0, .ref o0), (2, .int v2), (3, .int v3), (4, .ref (a (2 + w4))), (5, .int v5), (6, .int v6), (8, .int v8)] 10 (v9 + 1) d_Maker_fillBlocks_138 rfl rfl (by decide) rfl ?_
            refine j_goto C 56 d_Maker_fillBlocks_141 (by decide) ?_
            refine j_sub [4, 5, 6, 7, 8, 9, 1, 10, 0] rfl ?_
            exact ih (v7 + 1) (v9 + 1) (upd bare v7.toNatClampNeg ((bare v7.toNatClampNeg) ||| ((1 : Int32) <<< (v2 &&& 31)))) (Ls L w4 v7.toNatClampNeg r6) h x0
          · replace h := (if_neg c15).symm.trans h
            refine j_aload C 4 d_Maker_fillBlocks_95 rfl ?_
            refine j_iload C 7 d_Maker_fillBlocks_97 rfl ?_
            refine j_iload C 6 d_Maker_fillBlocks_99 rfl ?_
            refine j_isub C d_Maker_fillBlocks_101 ?_
            obtain ⟨b10, h⟩ := gd_ok h
            refine j_iald C (6 + w4) (t0 := 0) (co_4 (P := fun k => (wMk cI cR o0 hc hm hb a n col msk bare L)[6 + k]? = some (a (2 + k), .inl (cI, n, .inl (L.2 k)))) rfl rfl rfl rfl hw4) rfl b10 d_Maker_fillBlocks_102 ?_
            refine j_goto C 107 d_Maker_fillBlocks_103 (by decide) ?_
            refine j_istore C [(11, .int (L.2 w4 ((v7 - v6).toNatClampNeg))), (10, .int ((-1))), (0, .ref o0), (2, .int v2), (3, .int v3), (4, .ref (a (2 + w4))), (5, .int v5), (6, .int v6), (7, .int v7), (8, .int v8), (9, .int v9)] d_Maker_fillBlocks_107 (by decide) rfl ?_
            refine j_aload C 5 d_Maker_fillBlocks_109 rfl ?_
            refine j_iload C 8 d_Maker_fillBlocks_111 rfl ?_
            refine j_iload C 1 d_Maker_fillBlocks_113 rfl ?_
            refine j_iload C 0 d_Maker_fillBlocks_115 rfl ?_
            refine j_iload_n C 4 d_Maker_fillBlocks_117 rfl ?_
            obtain ⟨r11, hr11, h⟩ := bd_ok h
            refine j_PS C [.int ((-1)), .int (L.2 w4 ((v7 - v6).toNatClampNeg)), .int v3] (c_Maker_fillBetween l D cI cR cZ ((-1)) (L.2 w4 ((v7 - v6).toNatClampNeg)) v3 hr11) (cw_Maker_131 C ⟨Nat.le_of_ble_eq_true rfl, Nat.le_of_ble_eq_true rfl⟩) [] rfl rfl rfl (Nat.le_of_ble_eq_true rfl) d_Maker_fillBlocks_118 (by decide) ?_
            obtain ⟨b12, h⟩ := gd_ok h
            refine j_iast C (6 + w4) (wMk cI cR o0 hc hm hb a n col msk bare (Ls L w4 v7.toNatClampNeg r11)) (t0 := 0) (co_4 (P := fun k => (wMk cI cR o0 hc hm hb a n col msk bare L)[6 + k]? = some (a (2 + k), .inl (cI, n, .inl (L.2 k)))) rfl rfl rfl rfl hw4) (co_4 (P := fun k => (wMk cI cR o0 hc hm hb a n col msk bare L).set (6 + k) (a (2 + k), .inl (cI, n, .inl (upd (L.2 k) v7.toNatClampNeg r11))) = wMk cI cR o0 hc hm hb a n col msk bare (Ls L k v7.toNatClampNeg r11)) rfl rfl rfl rfl hw4) rfl b12 d_Maker_fillBlocks_121 ?_
            refine j_aload_n C 2 d_Maker_fillBlocks_122 rfl ?_
            refine gf_Maker_22 C 0 (v := .ref hb) rfl rfl d_Maker_fillBlocks_123 ?_
            refine j_iload C 8 d_Maker_fillBlocks_126 rfl ?_
            refine j_dup2 C d_Maker_fillBlocks_128 rfl rfl ?_
            obtain ⟨b13, h⟩ := gd_ok h
            refine j_iald C (3) (t0 := 0) rfl rfl b13 d_Maker_fillBlocks_129 ?_
            refine j_iconst C (v := 1) d_Maker_fillBlocks_130 (by decide) ?_
            refine j_iload_n C 3 d_Maker_fillBlocks_131 rfl ?_
            refine j_ishl C d_Maker_fillBlocks_132 ?_
            refine j_ior C d_Maker_fillBlocks_133 ?_
            obtain ⟨b14, h⟩ := gd_ok h
            refine j_iast C (3) (wMk cI cR o0 hc hm hb a n col msk (upd bare v7.toNatClampNeg ((bare v7.toNatClampNeg) ||| ((1 : Int32) <<< (v2 &&& 31)))) (Ls L w4 v7.toNatClampNeg r11)) (t0 := 0) rfl rfl rfl b14 d_Maker_fillBlocks_134 ?_
            refine j_iinc C [(7, .int (v7 + 1)), (11, .int (L.2 w4 ((v7 - v6).toNatClampNeg))), (10, .int ((-1))), (0, .ref o0), (2, .int v2), (3, .int v3), (4, .ref (a (2 + w4))), (5, .int v5), (6, .int v6), (8, .int v8), (9, .int v9)] 8 (v7 + 1) d_Maker_fillBlocks_135 rfl rfl (by decide) rfl ?_
            refine j_iinc C [(9, .int (v9 + 1)), (7, .int (v7 + 1)), (11, .int (L.2 w4 ((v7 - v6).toNatClampNeg))), (10, .int ((-1))), (0, .ref o0), (2, .int v2), (3, .int v3), (4, .ref (a (2 + w4))), (5, .int v5), (6, .int v6), (8, .int v8)] 10 (v9 + 1) d_Maker_fillBlocks_138 rfl rfl (by decide) rfl ?_
            refine j_goto C 56 d_Maker_fillBlocks_141 (by decide) ?_
            refine j_sub [4, 5, 6, 7, 8, 9, 1, 10, 0] rfl ?_
            exact ih (v7 + 1) (v9 + 1) (upd bare v7.toNatClampNeg ((bare v7.toNatClampNeg) ||| ((1 : Int32) <<< (v2 &&& 31)))) (Ls L w4 v7.toNatClampNeg r11) h x0
        · replace h := (if_neg c27).symm.trans h
          refine j_aload C 3 d_Maker_fillBlocks_77 rfl ?_
          refine j_iload C 6 d_Maker_fillBlocks_79 rfl ?_
          refine j_iconst C (v := 1) d_Maker_fillBlocks_81 (by decide) ?_
          refine j_isub C d_Maker_fillBlocks_82 ?_
          obtain ⟨b16, h⟩ := gd_ok h
          refine j_iald C (6 + w4) (t0 := 0) (co_4 (P := fun k => (wMk cI cR o0 hc hm hb a n col msk bare L)[6 + k]? = some (a (2 + k), .inl (cI, n, .inl (L.2 k)))) rfl rfl rfl rfl hw4) rfl b16 d_Maker_fillBlocks_83 ?_
          refine j_goto C 88 d_Maker_fillBlocks_84 (by decide) ?_
          refine j_istore C [(10, .int (L.2 w4 ((v7 - 1).toNatClampNeg))), (0, .ref o0), (2, .int v2), (3, .int v3), (4, .ref (a (2 + w4))), (5, .int v5), (6, .int v6), (7, .int v7), (8, .int v8), (9, .int v9)] d_Maker_fillBlocks_88 (by decide) rfl ?_
          refine j_iload C 8 d_Maker_fillBlocks_90 rfl ?_
          refine j_if_le C 106 d_Maker_fillBlocks_92 (by decide) (fun c26 => ?_) (fun c26 => ?_)
          · replace h := (if_pos c26).symm.trans h
            refine j_iconst C (v := (-1)) d_Maker_fillBlocks_106 (by decide) ?_
            refine j_istore C [(11, .int ((-1))), (10, .int (L.2 w4 ((v7 - 1).toNatClampNeg))), (0, .ref o0), (2, .int v2), (3, .int v3), (4, .ref (a (2 + w4))), (5, .int v5), (6, .int v6), (7, .int v7), (8, .int v8), (9, .int v9)] d_Maker_fillBlocks_107 (by decide) rfl ?_
            refine j_aload C 5 d_Maker_fillBlocks_109 rfl ?_
            refine j_iload C 8 d_Maker_fillBlocks_111 rfl ?_
            refine j_iload C 1 d_Maker_fillBlocks_113 rfl ?_
            refine j_iload C 0 d_Maker_fillBlocks_115 rfl ?_
            refine j_iload_n C 4 d_Maker_fillBlocks_117 rfl ?_
            obtain ⟨r17, hr17, h⟩ := bd_ok h
            refine j_PS C [.int (L.2 w4 ((v7 - 1).toNatClampNeg)), .int ((-1)), .int v3] (c_Maker_fillBetween l D cI cR cZ (L.2 w4 ((v7 - 1).toNatClampNeg)) ((-1)) v3 hr17) (cw_Maker_131 C ⟨Nat.le_of_ble_eq_true rfl, Nat.le_of_ble_eq_true rfl⟩) [] rfl rfl rfl (Nat.le_of_ble_eq_true rfl) d_Maker_fillBlocks_118 (by decide) ?_
            obtain ⟨b18, h⟩ := gd_ok h
            refine j_iast C (6 + w4) (wMk cI cR o0 hc hm hb a n col msk bare (Ls L w4 v7.toNatClampNeg r17)) (t0 := 0) (co_4 (P := fun k => (wMk cI cR o0 hc hm hb a n col msk bare L)[6 + k]? = some (a (2 + k), .inl (cI, n, .inl (L.2 k)))) rfl rfl rfl rfl hw4) (co_4 (P := fun k => (wMk cI cR o0 hc hm hb a n col msk bare L).set (6 + k) (a (2 + k), .inl (cI, n, .inl (upd (L.2 k) v7.toNatClampNeg r17))) = wMk cI cR o0 hc hm hb a n col msk bare (Ls L k v7.toNatClampNeg r17)) rfl rfl rfl rfl hw4) rfl b18 d_Maker_fillBlocks_121 ?_
            refine j_aload_n C 2 d_Maker_fillBlocks_122 rfl ?_
            refine gf_Maker_22 C 0 (v := .ref hb) rfl rfl d_Maker_fillBlocks_123 ?_
            refine j_iload C 8 d_Maker_fillBlocks_126 rfl ?_
            refine j_dup2 C d_Maker_fillBlocks_128 rfl rfl ?_
            obtain ⟨b19, h⟩ := gd_ok h
            refine j_iald C (3) (t0 := 0) rfl rfl b19 d_Maker_fillBlocks_129 ?_
            refine j_iconst C (v := 1) d_Maker_fillBlocks_130 (by decide) ?_
            refine j_iload_n C 3 d_Maker_fillBlocks_131 rfl ?_
            refine j_ishl C d_Maker_fillBlocks_132 ?_
            refine j_ior C d_Maker_fillBlocks_133 ?_
            obtain ⟨b20, h⟩ := gd_ok h
            refine j_iast C (3) (wMk cI cR o0 hc hm hb a n col msk (upd bare v7.toNatClampNeg ((bare v7.toNatClampNeg) ||| ((1 : Int32) <<< (v2 &&& 31)))) (Ls L w4 v7.toNatClampNeg r17)) (t0 := 0) rfl rfl rfl b20 d_Maker_fillBlocks_134 ?_
            refine j_iinc C [(7, .int (v7 + 1)), (11, .int ((-1))), (10, .int (L.2 w4 ((v7 - 1).toNatClampNeg))), (0, .ref o0), (2, .int v2), (3, .int v3), (4, .ref (a (2 + w4))), (5, .int v5), (6, .int v6), (8, .int v8), (9, .int v9)] 8 (v7 + 1) d_Maker_fillBlocks_135 rfl rfl (by decide) rfl ?_
            refine j_iinc C [(9, .int (v9 + 1)), (7, .int (v7 + 1)), (11, .int ((-1))), (10, .int (L.2 w4 ((v7 - 1).toNatClampNeg))), (0, .ref o0), (2, .int v2), (3, .int v3), (4, .ref (a (2 + w4))), (5, .int v5), (6, .int v6), (8, .int v8)] 10 (v9 + 1) d_Maker_fillBlocks_138 rfl rfl (by decide) rfl ?_
            refine j_goto C 56 d_Maker_fillBlocks_141 (by decide) ?_
            refine j_sub [4, 5, 6, 7, 8, 9, 1, 10, 0] rfl ?_
            exact ih (v7 + 1) (v9 + 1) (upd bare v7.toNatClampNeg ((bare v7.toNatClampNeg) ||| ((1 : Int32) <<< (v2 &&& 31)))) (Ls L w4 v7.toNatClampNeg r17) h x0
          · replace h := (if_neg c26).symm.trans h
            refine j_aload C 4 d_Maker_fillBlocks_95 rfl ?_
            refine j_iload C 7 d_Maker_fillBlocks_97 rfl ?_
            refine j_iload C 6 d_Maker_fillBlocks_99 rfl ?_
            refine j_isub C d_Maker_fillBlocks_101 ?_
            obtain ⟨b21, h⟩ := gd_ok h
            refine j_iald C (6 + w4) (t0 := 0) (co_4 (P := fun k => (wMk cI cR o0 hc hm hb a n col msk bare L)[6 + k]? = some (a (2 + k), .inl (cI, n, .inl (L.2 k)))) rfl rfl rfl rfl hw4) rfl b21 d_Maker_fillBlocks_102 ?_
            refine j_goto C 107 d_Maker_fillBlocks_103 (by decide) ?_
            refine j_istore C [(11, .int (L.2 w4 ((v7 - v6).toNatClampNeg))), (10, .int (L.2 w4 ((v7 - 1).toNatClampNeg))), (0, .ref o0), (2, .int v2), (3, .int v3), (4, .ref (a (2 + w4))), (5, .int v5), (6, .int v6), (7, .int v7), (8, .int v8), (9, .int v9)] d_Maker_fillBlocks_107 (by decide) rfl ?_
            refine j_aload C 5 d_Maker_fillBlocks_109 rfl ?_
            refine j_iload C 8 d_Maker_fillBlocks_111 rfl ?_
            refine j_iload C 1 d_Maker_fillBlocks_113 rfl ?_
            refine j_iload C 0 d_Maker_fillBlocks_115 rfl ?_
            refine j_iload_n C 4 d_Maker_fillBlocks_117 rfl ?_
            obtain ⟨r22, hr22, h⟩ := bd_ok h
            refine j_PS C [.int (L.2 w4 ((v7 - 1).toNatClampNeg)), .int (L.2 w4 ((v7 - v6).toNatClampNeg)), .int v3] (c_Maker_fillBetween l D cI cR cZ (L.2 w4 ((v7 - 1).toNatClampNeg)) (L.2 w4 ((v7 - v6).toNatClampNeg)) v3 hr22) (cw_Maker_131 C ⟨Nat.le_of_ble_eq_true rfl, Nat.le_of_ble_eq_true rfl⟩) [] rfl rfl rfl (Nat.le_of_ble_eq_true rfl) d_Maker_fillBlocks_118 (by decide) ?_
            obtain ⟨b23, h⟩ := gd_ok h
            refine j_iast C (6 + w4) (wMk cI cR o0 hc hm hb a n col msk bare (Ls L w4 v7.toNatClampNeg r22)) (t0 := 0) (co_4 (P := fun k => (wMk cI cR o0 hc hm hb a n col msk bare L)[6 + k]? = some (a (2 + k), .inl (cI, n, .inl (L.2 k)))) rfl rfl rfl rfl hw4) (co_4 (P := fun k => (wMk cI cR o0 hc hm hb a n col msk bare L).set (6 + k) (a (2 + k), .inl (cI, n, .inl (upd (L.2 k) v7.toNatClampNeg r22))) = wMk cI cR o0 hc hm hb a n col msk bare (Ls L k v7.toNatClampNeg r22)) rfl rfl rfl rfl hw4) rfl b23 d_Maker_fillBlocks_121 ?_
            refine j_aload_n C 2 d_Maker_fillBlocks_122 rfl ?_
            refine gf_Maker_22 C 0 (v := .ref hb) rfl rfl d_Maker_fillBlocks_123 ?_
            refine j_iload C 8 d_Maker_fillBlocks_126 rfl ?_
            refine j_dup2 C d_Maker_fillBlocks_128 rfl rfl ?_
            obtain ⟨b24, h⟩ := gd_ok h
            refine j_iald C (3) (t0 := 0) rfl rfl b24 d_Maker_fillBlocks_129 ?_
            refine j_iconst C (v := 1) d_Maker_fillBlocks_130 (by decide) ?_
            refine j_iload_n C 3 d_Maker_fillBlocks_131 rfl ?_
            refine j_ishl C d_Maker_fillBlocks_132 ?_
            refine j_ior C d_Maker_fillBlocks_133 ?_
            obtain ⟨b25, h⟩ := gd_ok h
            refine j_iast C (3) (wMk cI cR o0 hc hm hb a n col msk (upd bare v7.toNatClampNeg ((bare v7.toNatClampNeg) ||| ((1 : Int32) <<< (v2 &&& 31)))) (Ls L w4 v7.toNatClampNeg r22)) (t0 := 0) rfl rfl rfl b25 d_Maker_fillBlocks_134 ?_
            refine j_iinc C [(7, .int (v7 + 1)), (11, .int (L.2 w4 ((v7 - v6).toNatClampNeg))), (10, .int (L.2 w4 ((v7 - 1).toNatClampNeg))), (0, .ref o0), (2, .int v2), (3, .int v3), (4, .ref (a (2 + w4))), (5, .int v5), (6, .int v6), (8, .int v8), (9, .int v9)] 8 (v7 + 1) d_Maker_fillBlocks_135 rfl rfl (by decide) rfl ?_
            refine j_iinc C [(9, .int (v9 + 1)), (7, .int (v7 + 1)), (11, .int (L.2 w4 ((v7 - v6).toNatClampNeg))), (10, .int (L.2 w4 ((v7 - 1).toNatClampNeg))), (0, .ref o0), (2, .int v2), (3, .int v3), (4, .ref (a (2 + w4))), (5, .int v5), (6, .int v6), (8, .int v8)] 10 (v9 + 1) d_Maker_fillBlocks_138 rfl rfl (by decide) rfl ?_
            refine j_goto C 56 d_Maker_fillBlocks_141 (by decide) ?_
            refine j_sub [4, 5, 6, 7, 8, 9, 1, 10, 0] rfl ?_
            exact ih (v7 + 1) (v9 + 1) (upd bare v7.toNatClampNeg ((bare v7.toNatClampNeg) ||| ((1 : Int32) <<< (v2 &&& 31)))) (Ls L w4 v7.toNatClampNeg r22) h x0
set_option maxRecDepth 100000 in
set_option maxHeartbeats 4000000 in
theorem t_Maker_fillBlocks_l46 {p : Program} {l : Launch} {e : Env} {s : State} {m : MethodId} {args : Array Value} {below : List Frame} {meth : Method} {c : Code} {D : va_G} {cI cR cZ : ClassId} {A : Nat → Prop} {Q : State → Prop} (C : Cx p s m args meth c D (tyG cI cR cZ) b_Maker_fillBlocks 12 "MaskLayers$Maker") (hA : ∀ q : Nat, s.heap.size ≤ q → A q) {o0 : Nat} {hc : Nat} {hm : Nat} {hb : Nat} {a : (Nat → Nat)} {n : Nat} {fu : Nat} {col : (Nat → Int32)} {msk : (Nat → Int32)} {w4 : Nat} (hw4 : w4 < 4) {v2 : Int32} {v3 : Int32} {v5 : Int32} {v6 : Int32} {out : Nat × (Nat → Int32) × LyS} : ∀ (k : Nat) (v7 : Int32) (v8 : Int32) (bare : (Nat → Int32)) (L : LyS), Maker_fillBlocks_l46 fu n col msk w4 v2 v3 v5 v6 k v7 v8 bare L = some out → (out.1 = 0 → J p l e rm_Maker_fillBlocks s m args below meth c D A (va_D A) 12 Q 0 0 (wMk cI cR o0 hc hm hb a n col msk out.2.1 out.2.2) [] [] 150) → J p l e rm_Maker_fillBlocks s m args below meth c D A (va_D A) 12 Q 0 0 (wMk cI cR o0 hc hm hb a n col msk bare L) [(0, .ref o0), (2, .int v2), (3, .int v3), (4, .ref (a (2 + w4))), (5, .int v5), (6, .int v6), (7, .int v7), (8, .int v8)] [] 46 := by
  intro k
  induction k with
  | zero => intro v7 v8 bare L h; cases (show none = some out from h)
  | succ k ih =>
    intro v7 v8 bare L h x0
    rw [Maker_fillBlocks_l46] at h
    refine j_iload C 7 d_Maker_fillBlocks_46 rfl ?_
    refine j_iload C 4 d_Maker_fillBlocks_48 rfl ?_
    refine j_icmp_ge C 150 d_Maker_fillBlocks_50 (by decide) (fun c32 => ?_) (fun c32 => ?_)
    · replace h := (if_pos c32).symm.trans h
      obtain rfl := Option.some.inj h
      refine j_sub [] rfl ?_
      exact x0 rfl
    · replace h := (if_neg c32).symm.trans h
      refine j_iconst C (v := 0) d_Maker_fillBlocks_53 (by decide) ?_
      refine j_istore C [(9, .int 0), (0, .ref o0), (2, .int v2), (3, .int v3), (4, .ref (a (2 + w4))), (5, .int v5), (6, .int v6), (7, .int v7), (8, .int v8)] d_Maker_fillBlocks_54 (by decide) rfl ?_
      obtain ⟨r30, hr30, h⟩ := bd_ok h
      refine j_sub [1, 2, 3, 4, 5, 6, 7, 8, 0] rfl ?_
      refine t_Maker_fillBlocks_l56 C hA hw4 fu v7 0 bare L hr30 (fun e31 => ?_)
      · refine j_iinc C [(8, .int (v8 + 1)), (0, .ref o0), (2, .int v2), (3, .int v3), (4, .ref (a (2 + w4))), (5, .int v5), (6, .int v6), (7, .int r30.2.1)] 7 (v8 + 1) d_Maker_fillBlocks_144 rfl rfl (by decide) rfl ?_
        refine j_goto C 46 d_Maker_fillBlocks_147 (by decide) ?_
        refine j_sub [1, 2, 3, 4, 5, 6, 7, 0] rfl ?_
        exact ih r30.2.1 (v8 + 1) r30.2.2.1 r30.2.2.2 h x0
set_option maxRecDepth 100000 in
set_option maxHeartbeats 4000000 in
theorem c_Maker_fillBlocks (l : Launch) (D : va_G) (cI cR cZ : ClassId) (fu : Nat) (o0 : Nat) (hc : Nat) (hm : Nat) (hb : Nat) (a : (Nat → Nat)) (n : Nat) (col : (Nat → Int32)) (msk : (Nat → Int32)) (bare : (Nat → Int32)) (L : LyS) (p1 : Int32) (p2 : Int32) (p3 : Int32) {res : ((Nat → Int32) × LyS)} (h : Maker_fillBlocks fu n col msk bare L p1 p2 p3 = some res) (sz : Nat) : Met l y_Maker_fillBlocks (Cond.code y_Maker_fillBlocks b_Maker_fillBlocks 12 none :: BIG) rm_Maker_fillBlocks (PcI [.ref o0, .int p1, .int p2, .int p3] D (tyG cI cR cZ) (wMk cI cR o0 hc hm hb a n col msk bare L) sz) (QcV D (fun _ : Nat => wMk cI cR o0 hc hm hb a n col msk res.1 res.2) (va_A (wMk cI cR o0 hc hm hb a n col msk bare L) sz)) 0 0 (va_A (wMk cI cR o0 hc hm hb a n col msk bare L) sz) := by
  refine met_V (by decide) (Nat.le_of_ble_eq_true rfl) (fun p e s m args below meth c A hA C hr => ?_)
  have C : Cx p s m args meth c D (tyG cI cR cZ) b_Maker_fillBlocks 12 "MaskLayers$Maker" := C
  have hr : meth.sig.returnType = none := hr
  show J p l e rm_Maker_fillBlocks s m args below meth c D A (va_D A) 12 (MQ below (QcV D (fun _ : Nat => wMk cI cR o0 hc hm hb a n col msk res.1 res.2) A) args s 0 0 A) 0 0 (wMk cI cR o0 hc hm hb a n col msk bare L) [(0, .ref o0), (1, .int p1), (2, .int p2), (3, .int p3)] [] 0
  unfold Maker_fillBlocks at h
  refine j_aload_n C 0 d_Maker_fillBlocks_0 rfl ?_
  refine gf_Maker_9 C 0 (v := .ref (a 0)) rfl rfl d_Maker_fillBlocks_1 ?_
  refine gf_Maker_85 C 4 (v := .ref (a 1)) rfl rfl d_Maker_fillBlocks_4 ?_
  refine j_iload_n C 2 d_Maker_fillBlocks_7 rfl ?_
  obtain ⟨b1, h⟩ := gd_ok h
  refine j_aald C 5 (t0 := 2) rfl rfl b1 d_Maker_fillBlocks_8 ?_
  refine j_astore C [(4, .ref (a (2 + p2.toNatClampNeg))), (0, .ref o0), (1, .int p1), (2, .int p2), (3, .int p3)] d_Maker_fillBlocks_9 (by decide) rfl ?_
  refine j_aload_n C 1 d_Maker_fillBlocks_11 rfl ?_
  refine gf_Maker_9 C 0 (v := .ref (a 0)) rfl rfl d_Maker_fillBlocks_12 ?_
  refine j_iload_n C 2 d_Maker_fillBlocks_15 rfl ?_
  refine j_iload_n C 3 d_Maker_fillBlocks_16 rfl ?_
  obtain ⟨r2, hr2, h⟩ := bd_ok h
  refine j_PV C [.int p1, .int p2] 4 rfl rfl (c_Layers_rowsOf l D cI cR cZ a n L p1 p2 hr2) (cw_Maker_89 C ⟨Nat.le_of_ble_eq_true rfl, Nat.le_of_ble_eq_true rfl⟩) [4, 5, 6, 7, 8, 9, 10, 11, 12] rfl rfl rfl (Nat.le_of_ble_eq_true rfl) d_Maker_fillBlocks_17 (by decide) ?_
  refine j_istore C [(5, .int r2), (4, .ref (a (2 + p2.toNatClampNeg))), (0, .ref o0), (1, .int p1), (2, .int p2), (3, .int p3)] d_Maker_fillBlocks_20 (by decide) rfl ?_
  refine j_aload_n C 2 d_Maker_fillBlocks_22 rfl ?_
  refine gf_Maker_9 C 0 (v := .ref (a 0)) rfl rfl d_Maker_fillBlocks_23 ?_
  refine gf_Maker_92 C 4 (v := .ref (a 8)) rfl rfl d_Maker_fillBlocks_26 ?_
  refine j_iload_n C 4 d_Maker_fillBlocks_29 rfl ?_
  obtain ⟨b3, h⟩ := gd_ok h
  refine j_iald C (12) (t0 := 0) rfl rfl b3 d_Maker_fillBlocks_30 ?_
  refine j_istore C [(6, .int (L.2 6 p2.toNatClampNeg)), (5, .int r2), (4, .ref (a (2 + p2.toNatClampNeg))), (0, .ref o0), (1, .int p1), (2, .int p2), (3, .int p3)] d_Maker_fillBlocks_31 (by decide) rfl ?_
  refine j_aload_n C 3 d_Maker_fillBlocks_33 rfl ?_
  refine gf_Maker_9 C 0 (v := .ref (a 0)) rfl rfl d_Maker_fillBlocks_34 ?_
  refine j_iload_n C 4 d_Maker_fillBlocks_37 rfl ?_
  obtain ⟨r4, hr4, h⟩ := bd_ok h
  refine j_PV C [.int p1] 4 rfl rfl (c_Layers_startOf l D cI cR cZ a n L p1 hr4) (cw_Maker_67 C ⟨Nat.le_of_ble_eq_true rfl, Nat.le_of_ble_eq_true rfl⟩) [4, 5, 6, 7, 8, 9, 10, 11, 12] rfl rfl rfl (Nat.le_of_ble_eq_true rfl) d_Maker_fillBlocks_38 (by decide) ?_
  refine j_istore C [(7, .int r4), (6, .int (L.2 6 p2.toNatClampNeg)), (5, .int r2), (4, .ref (a (2 + p2.toNatClampNeg))), (0, .ref o0), (1, .int p1), (2, .int p2), (3, .int p3)] d_Maker_fillBlocks_41 (by decide) rfl ?_
  refine j_iconst C (v := 0) d_Maker_fillBlocks_43 (by decide) ?_
  refine j_istore C [(8, .int 0), (7, .int r4), (6, .int (L.2 6 p2.toNatClampNeg)), (5, .int r2), (4, .ref (a (2 + p2.toNatClampNeg))), (0, .ref o0), (1, .int p1), (2, .int p2), (3, .int p3)] d_Maker_fillBlocks_44 (by decide) rfl ?_
  obtain ⟨r33, hr33, h⟩ := bd_ok h
  refine j_sub [5, 7, 8, 4, 3, 2, 1, 0] rfl ?_
  refine t_Maker_fillBlocks_l46 C hA (in_lt b1) fu r4 0 bare L hr33 (fun e34 => ?_)
  · obtain rfl := Option.some.inj h
    exact j_vret C hr d_Maker_fillBlocks_150 0 rfl
def Maker_makeRest_l41 (n : Nat) (col : (Nat → Int32)) (msk : (Nat → Int32)) (bare : (Nat → Int32)) (v4 : Int32) (v5 : Int32) : Nat → Int32 → Int32 → Int32 → LyS → Option (Nat × Int32 × Int32 × LyS)
  | 0, _, _, _, _ => none
  | k + 1, v2, v3, v6, L =>
  (if (L.1 0) ≤ v6 then some (0, v2, v3, L)
  else gd v3 n ((if (msk v3.toNatClampNeg) = 1 then gd 2 4 ((Layers_placeOf n L 2 v6 v5).bind fun r15 =>
  gd r15 n (gd v3 n ((ML_difference (col v3.toNatClampNeg) (L.2 ((2 : Int32).toNatClampNeg) r15.toNatClampNeg)).bind fun r18 =>
  gd 3 4 (gd v3 n ((if v2 = 0 then (if r18 = 0 then Maker_makeRest_l41 n col msk bare v4 v5 k 0 (v3 + 1) (v6 + 1) (Ls L ((3 : Int32).toNatClampNeg) v3.toNatClampNeg r18)
  else Maker_makeRest_l41 n col msk bare v4 v5 k 1 (v3 + 1) (v6 + 1) (Ls L ((3 : Int32).toNatClampNeg) v3.toNatClampNeg r18))
  else Maker_makeRest_l41 n col msk bare v4 v5 k 1 (v3 + 1) (v6 + 1) (Ls L ((3 : Int32).toNatClampNeg) v3.toNatClampNeg r18)))))))
  else gd 0 4 ((Layers_placeOf n L 0 v6 v5).bind fun r6 =>
  gd r6 n (gd v3 n ((ML_difference (col v3.toNatClampNeg) (L.2 ((0 : Int32).toNatClampNeg) r6.toNatClampNeg)).bind fun r9 =>
  gd 3 4 (gd v3 n ((if v2 = 0 then (if r9 = 0 then Maker_makeRest_l41 n col msk bare v4 v5 k 0 (v3 + 1) (v6 + 1) (Ls L ((3 : Int32).toNatClampNeg) v3.toNatClampNeg r9)
  else Maker_makeRest_l41 n col msk bare v4 v5 k 1 (v3 + 1) (v6 + 1) (Ls L ((3 : Int32).toNatClampNeg) v3.toNatClampNeg r9))
  else Maker_makeRest_l41 n col msk bare v4 v5 k 1 (v3 + 1) (v6 + 1) (Ls L ((3 : Int32).toNatClampNeg) v3.toNatClampNeg r9))))))))))
def Maker_makeRest_l31 (fu : Nat) (n : Nat) (col : (Nat → Int32)) (msk : (Nat → Int32)) (bare : (Nat → Int32)) (v4 : Int32) : Nat → Int32 → Int32 → Int32 → LyS → Option (Nat × Int32 × LyS)
  | 0, _, _, _, _ => none
  | k + 1, v2, v3, v5, L =>
  (if v4 ≤ v5 then some (0, v2, L)
  else (Maker_makeRest_l41 n col msk bare v4 v5 fu v2 v3 0 L).bind fun r25 =>
  Maker_makeRest_l31 fu n col msk bare v4 k r25.2.1 r25.2.2.1 (v5 + 1) r25.2.2.2)
def Maker_makeRest (fu : Nat) (n : Nat) (col : (Nat → Int32)) (msk : (Nat → Int32)) (bare : (Nat → Int32)) (L : LyS) (p1 : Int32) : Option (Int32 × LyS) :=
  (Layers_startOf n L p1).bind fun r1 =>
  (Layers_bottomOf n L p1).bind fun r2 =>
  (Layers_topOf n L p1).bind fun r3 =>
  (Maker_makeRest_l31 fu n col msk bare r2 fu 0 r1 r3 L).bind fun r28 =>
  zb r28.2.1 (some (r28.2.1, r28.2.2))
set_option maxRecDepth 100000 in
set_option maxHeartbeats 4000000 in
theorem t_Maker_makeRest_l41 {p : Program} {l : Launch} {e : Env} {s : State} {m : MethodId} {args : Array Value} {below : List Frame} {meth : Method} {c : Code} {D : va_G} {cI cR cZ : ClassId} {A : Nat → Prop} {Q : State → Prop} (C : Cx p s m args meth c D (tyG cI cR cZ) b_Maker_makeRest 10 "MaskLayers$Maker") (hA : ∀ q : Nat, s.heap.size ≤ q → A q) {o0 : Nat} {hc : Nat} {hm : Nat} {hb : Nat} {a : (Nat → Nat)} {n : Nat} {col : (Nat → Int32)} {msk : (Nat → Int32)} {bare : (Nat → Int32)} {v4 : Int32} {v5 : Int32} {out : Nat × Int32 × Int32 × LyS} : ∀ (k : Nat) (v2 : Int32) (v3 : Int32) (v6 : Int32) (L : LyS), Maker_makeRest_l41 n col msk bare v4 v5 k v2 v3 v6 L = some out → (out.1 = 0 → J p l e rm_Maker_makeRest s m args below meth c D A (va_D A) 10 Q 0 0 (wMk cI cR o0 hc hm hb a n col msk bare out.2.2.2) [(0, .ref o0), (2, .int out.2.1), (3, .int out.2.2.1), (4, .int v4), (5, .int v5)] [] 146) → J p l e rm_Maker_makeRest s m args below meth c D A (va_D A) 10 Q 0 0 (wMk cI cR o0 hc hm hb a n col msk bare L) [(0, .ref o0), (2, .int v2), (3, .int v3), (4, .int v4), (5, .int v5), (6, .int v6)] [] 41 := by
  intro k
  induction k with
  | zero => intro v2 v3 v6 L h; cases (show none = some out from h)
  | succ k ih =>
    intro v2 v3 v6 L h x0
    rw [Maker_makeRest_l41] at h
    refine j_iload C 5 d_Maker_makeRest_41 rfl ?_
    refine j_aload_n C 0 d_Maker_makeRest_43 rfl ?_
    refine gf_Maker_9 C 0 (v := .ref (a 0)) rfl rfl d_Maker_makeRest_44 ?_
    refine gf_Maker_113 C 4 (v := .int (L.1 0)) rfl rfl d_Maker_makeRest_47 ?_
    refine j_icmp_ge C 146 d_Maker_makeRest_50 (by decide) (fun c24 => ?_) (fun c24 => ?_)
    · replace h := (if_pos c24).symm.trans h
      obtain rfl := Option.some.inj h
      refine j_sub [0, 1, 2, 3, 4] rfl ?_
      exact x0 rfl
    · replace h := (if_neg c24).symm.trans h
      refine j_aload_n C 0 d_Maker_makeRest_53 rfl ?_
      refine gf_Maker_19 C 0 (v := .ref hm) rfl rfl d_Maker_makeRest_54 ?_
      refine j_iload_n C 2 d_Maker_makeRest_57 rfl ?_
      obtain ⟨b4, h⟩ := gd_ok h
      refine j_iald C (2) (t0 := 0) rfl rfl b4 d_Maker_makeRest_58 ?_
      refine j_iconst C (v := 1) d_Maker_makeRest_59 (by decide) ?_
      refine j_icmp_ne C 67 d_Maker_makeRest_60 (by decide) (fun c23 => ?_) (fun c23 => ?_)
      · replace h := (if_neg c23).symm.trans h
        refine j_iconst C (v := 0) d_Maker_makeRest_67 (by decide) ?_
        refine j_istore C [(7, .int 0), (0, .ref o0), (2, .int v2), (3, .int v3), (4, .int v4), (5, .int v5), (6, .int v6)] d_Maker_makeRest_68 (by decide) rfl ?_
        refine j_aload_n C 1 d_Maker_makeRest_70 rfl ?_
        refine gf_Maker_9 C 0 (v := .ref (a 0)) rfl rfl d_Maker_makeRest_71 ?_
        refine gf_Maker_85 C 4 (v := .ref (a 1)) rfl rfl d_Maker_makeRest_74 ?_
        refine j_iload C 0 d_Maker_makeRest_77 rfl ?_
        obtain ⟨b5, h⟩ := gd_ok h
        refine j_aald C 5 (t0 := 2) rfl rfl b5 d_Maker_makeRest_79 ?_
        refine j_aload_n C 1 d_Maker_makeRest_80 rfl ?_
        refine gf_Maker_9 C 0 (v := .ref (a 0)) rfl rfl d_Maker_makeRest_81 ?_
        refine j_iload C 0 d_Maker_makeRest_84 rfl ?_
        refine j_iload C 6 d_Maker_makeRest_86 rfl ?_
        refine j_iload C 5 d_Maker_makeRest_88 rfl ?_
        obtain ⟨r6, hr6, h⟩ := bd_ok h
        refine j_PV C [.int 0, .int v6, .int v5] 4 rfl rfl (c_Layers_placeOf l D cI cR cZ a n L 0 v6 v5 hr6) (cw_Maker_56 C ⟨Nat.le_of_ble_eq_true rfl, Nat.le_of_ble_eq_true rfl⟩) [4, 5, 6, 7, 8, 9, 10, 11, 12] rfl rfl rfl (Nat.le_of_ble_eq_true rfl) d_Maker_makeRest_90 (by decide) ?_
        obtain ⟨b7, h⟩ := gd_ok h
        refine j_iald C (6 + (0 : Int32).toNatClampNeg) (t0 := 0) (co_4 (P := fun k => (wMk cI cR o0 hc hm hb a n col msk bare L)[6 + k]? = some (a (2 + k), .inl (cI, n, .inl (L.2 k)))) rfl rfl rfl rfl (in_lt b5)) rfl b7 d_Maker_makeRest_93 ?_
        refine j_istore C [(8, .int (L.2 ((0 : Int32).toNatClampNeg) r6.toNatClampNeg)), (7, .int 0), (0, .ref o0), (2, .int v2), (3, .int v3), (4, .int v4), (5, .int v5), (6, .int v6)] d_Maker_makeRest_94 (by decide) rfl ?_
        refine j_aload_n C 2 d_Maker_makeRest_96 rfl ?_
        refine gf_Maker_15 C 0 (v := .ref hc) rfl rfl d_Maker_makeRest_97 ?_
        refine j_iload_n C 4 d_Maker_makeRest_100 rfl ?_
        obtain ⟨b8, h⟩ := gd_ok h
        refine j_iald C (1) (t0 := 0) rfl rfl b8 d_Maker_makeRest_101 ?_
        refine j_iload C 0 d_Maker_makeRest_102 rfl ?_
        obtain ⟨r9, hr9, h⟩ := bd_ok h
        refine j_PSN C [.int (col v3.toNatClampNeg), .int (L.2 ((0 : Int32).toNatClampNeg) r6.toNatClampNeg)] (c_ML_difference l D cI cR cZ (col v3.toNatClampNeg) (L.2 ((0 : Int32).toNatClampNeg) r6.toNatClampNeg) hr9) (cw_Maker_137 C ⟨Nat.le_of_ble_eq_true rfl, Nat.le_of_ble_eq_true rfl⟩) [] rfl rfl rfl (Nat.le_of_ble_eq_true rfl) d_Maker_makeRest_104 (by decide) ?_
        refine j_istore C [(9, .int r9), (8, .int (L.2 ((0 : Int32).toNatClampNeg) r6.toNatClampNeg)), (7, .int 0), (0, .ref o0), (2, .int v2), (3, .int v3), (4, .int v4), (5, .int v5), (6, .int v6)] d_Maker_makeRest_107 (by decide) rfl ?_
        refine j_aload_n C 3 d_Maker_makeRest_109 rfl ?_
        refine gf_Maker_9 C 0 (v := .ref (a 0)) rfl rfl d_Maker_makeRest_110 ?_
        refine gf_Maker_85 C 4 (v := .ref (a 1)) rfl rfl d_Maker_makeRest_113 ?_
        refine j_iconst C (v := 3) d_Maker_makeRest_116 (by decide) ?_
        obtain ⟨b10, h⟩ := gd_ok h
        refine j_aald C 5 (t0 := 2) rfl rfl b10 d_Maker_makeRest_117 ?_
        refine j_iload_n C 5 d_Maker_makeRest_118 rfl ?_
        refine j_iload C 0 d_Maker_makeRest_119 rfl ?_
        obtain ⟨b11, h⟩ := gd_ok h
        refine j_iast C (6 + (3 : Int32).toNatClampNeg) (wMk cI cR o0 hc hm hb a n col msk bare (Ls L ((3 : Int32).toNatClampNeg) v3.toNatClampNeg r9)) (t0 := 0) (co_4 (P := fun k => (wMk cI cR o0 hc hm hb a n col msk bare L)[6 + k]? = some (a (2 + k), .inl (cI, n, .inl (L.2 k)))) rfl rfl rfl rfl (in_lt b10)) (co_4 (P := fun k => (wMk cI cR o0 hc hm hb a n col msk bare L).set (6 + k) (a (2 + k), .inl (cI, n, .inl (upd (L.2 k) v3.toNatClampNeg r9))) = wMk cI cR o0 hc hm hb a n col msk bare (Ls L k v3.toNatClampNeg r9)) rfl rfl rfl rfl (in_lt b10)) rfl b11 d_Maker_makeRest_121 ?_
        refine j_iload_n C 4 d_Maker_makeRest_122 rfl ?_
        refine j_if_ne C 131 d_Maker_makeRest_123 (by decide) (fun c13 => ?_) (fun c13 => ?_)
        · replace h := (if_neg c13).symm.trans h
          refine j_iconst C (v := 1) d_Maker_makeRest_131 (by decide) ?_
          refine j_goto C 136 d_Maker_makeRest_132 (by decide) ?_
          refine j_istore_n C [(2, .int 1), (9, .int r9), (8, .int (L.2 ((0 : Int32).toNatClampNeg) r6.toNatClampNeg)), (7, .int 0), (0, .ref o0), (3, .int v3), (4, .int v4), (5, .int v5), (6, .int v6)] d_Maker_makeRest_136 (by decide) rfl ?_
          refine j_iinc C [(3, .int (v3 + 1)), (2, .int 1), (9, .int r9), (8, .int (L.2 ((0 : Int32).toNatClampNeg) r6.toNatClampNeg)), (7, .int 0), (0, .ref o0), (4, .int v4), (5, .int v5), (6, .int v6)] 5 (v3 + 1) d_Maker_makeRest_137 rfl rfl (by decide) rfl ?_
          refine j_iinc C [(6, .int (v6 + 1)), (3, .int (v3 + 1)), (2, .int 1), (9, .int r9), (8, .int (L.2 ((0 : Int32).toNatClampNeg) r6.toNatClampNeg)), (7, .int 0), (0, .ref o0), (4, .int v4), (5, .int v5)] 8 (v6 + 1) d_Maker_makeRest_140 rfl rfl (by decide) rfl ?_
          refine j_goto C 41 d_Maker_makeRest_143 (by decide) ?_
          refine j_sub [6, 2, 1, 7, 8, 0] rfl ?_
          exact ih 1 (v3 + 1) (v6 + 1) (Ls L ((3 : Int32).toNatClampNeg) v3.toNatClampNeg r9) h x0
        · replace h := (if_pos c13).symm.trans h
          refine j_iload C 0 d_Maker_makeRest_126 rfl ?_
          refine j_if_eq C 135 d_Maker_makeRest_128 (by decide) (fun c12 => ?_) (fun c12 => ?_)
          · replace h := (if_pos c12).symm.trans h
            refine j_iconst C (v := 0) d_Maker_makeRest_135 (by decide) ?_
            refine j_istore_n C [(2, .int 0), (9, .int r9), (8, .int (L.2 ((0 : Int32).toNatClampNeg) r6.toNatClampNeg)), (7, .int 0), (0, .ref o0), (3, .int v3), (4, .int v4), (5, .int v5), (6, .int v6)] d_Maker_makeRest_136 (by decide) rfl ?_
            refine j_iinc C [(3, .int (v3 + 1)), (2, .int 0), (9, .int r9), (8, .int (L.2 ((0 : Int32).toNatClampNeg) r6.toNatClampNeg)), (7, .int 0), (0, .ref o0), (4, .int v4), (5, .int v5), (6, .int v6)] 5 (v3 + 1) d_Maker_makeRest_137 rfl rfl (by decide) rfl ?_
            refine j_iinc C [(6, .int (v6 + 1)), (3, .int (v3 + 1)), (2, .int 0), (9, .int r9), (8, .int (L.2 ((0 : Int32).toNatClampNeg) r6.toNatClampNeg)), (7, .int 0), (0, .ref o0), (4, .int v4), (5, .int v5)] 8 (v6 + 1) d_Maker_makeRest_140 rfl rfl (by decide) rfl ?_
            refine j_goto C 41 d_Maker_makeRest_143 (by decide) ?_
            refine j_sub [6, 2, 1, 7, 8, 0] rfl ?_
            exact ih 0 (v3 + 1) (v6 + 1) (Ls L ((3 : Int32).toNatClampNeg) v3.toNatClampNeg r9) h x0
          · replace h := (if_neg c12).symm.trans h
            refine j_iconst C (v := 1) d_Maker_makeRest_131 (by decide) ?_
            refine j_goto C 136 d_Maker_makeRest_132 (by decide) ?_
            refine j_istore_n C [(2, .int 1), (9, .int r9), (8, .int (L.2 ((0 : Int32).toNatClampNeg) r6.toNatClampNeg)), (7, .int 0), (0, .ref o0), (3, .int v3), (4, .int v4), (5, .int v5), (6, .int v6)] d_Maker_makeRest_136 (by decide) rfl ?_
            refine j_iinc C [(3, .int (v3 + 1)), (2, .int 1), (9, .int r9), (8, .int (L.2 ((0 : Int32).toNatClampNeg) r6.toNatClampNeg)), (7, .int 0), (0, .ref o0), (4, .int v4), (5, .int v5), (6, .int v6)] 5 (v3 + 1) d_Maker_makeRest_137 rfl rfl (by decide) rfl ?_
            refine j_iinc C [(6, .int (v6 + 1)), (3, .int (v3 + 1)), (2, .int 1), (9, .int r9), (8, .int (L.2 ((0 : Int32).toNatClampNeg) r6.toNatClampNeg)), (7, .int 0), (0, .ref o0), (4, .int v4), (5, .int v5)] 8 (v6 + 1) d_Maker_makeRest_140 rfl rfl (by decide) rfl ?_
            refine j_goto C 41 d_Maker_makeRest_143 (by decide) ?_
            refine j_sub [6, 2, 1, 7, 8, 0] rfl ?_
            exact ih 1 (v3 + 1) (v6 + 1) (Ls L ((3 : Int32).toNatClampNeg) v3.toNatClampNeg r9) h x0
      · replace h := (if_pos c23).symm.trans h
        refine j_iconst C (v := 2) d_Maker_makeRest_63 (by decide) ?_
        refine j_goto C 68 d_Maker_makeRest_64 (by decide) ?_
        refine j_istore C [(7, .int 2), (0, .ref o0), (2, .int v2), (3, .int v3), (4, .int v4), (5, .int v5), (6, .int v6)] d_Maker_makeRest_68 (by decide) rfl ?_
        refine j_aload_n C 1 d_Maker_makeRest_70 rfl ?_
        refine gf_Maker_9 C 0 (v := .ref (a 0)) rfl rfl d_Maker_makeRest_71 ?_
        refine gf_Maker_85 C 4 (v := .ref (a 1)) rfl rfl d_Maker_makeRest_74 ?_
        refine j_iload C 0 d_Maker_makeRest_77 rfl ?_
        obtain ⟨b14, h⟩ := gd_ok h
        refine j_aald C 5 (t0 := 2) rfl rfl b14 d_Maker_makeRest_79 ?_
        refine j_aload_n C 1 d_Maker_makeRest_80 rfl ?_
        refine gf_Maker_9 C 0 (v := .ref (a 0)) rfl rfl d_Maker_makeRest_81 ?_
        refine j_iload C 0 d_Maker_makeRest_84 rfl ?_
        refine j_iload C 6 d_Maker_makeRest_86 rfl ?_
        refine j_iload C 5 d_Maker_makeRest_88 rfl ?_
        obtain ⟨r15, hr15, h⟩ := bd_ok h
        refine j_PV C [.int 2, .int v6, .int v5] 4 rfl rfl (c_Layers_placeOf l D cI cR cZ a n L 2 v6 v5 hr15) (cw_Maker_56 C ⟨Nat.le_of_ble_eq_true rfl, Nat.le_of_ble_eq_true rfl⟩) [4, 5, 6, 7, 8, 9, 10, 11, 12] rfl rfl rfl (Nat.le_of_ble_eq_true rfl) d_Maker_makeRest_90 (by decide) ?_
        obtain ⟨b16, h⟩ := gd_ok h
        refine j_iald C (6 + (2 : Int32).toNatClampNeg) (t0 := 0) (co_4 (P := fun k => (wMk cI cR o0 hc hm hb a n col msk bare L)[6 + k]? = some (a (2 + k), .inl (cI, n, .inl (L.2 k)))) rfl rfl rfl rfl (in_lt b14)) rfl b16 d_Maker_makeRest_93 ?_
        refine j_istore C [(8, .int (L.2 ((2 : Int32).toNatClampNeg) r15.toNatClampNeg)), (7, .int 2), (0, .ref o0), (2, .int v2), (3, .int v3), (4, .int v4), (5, .int v5), (6, .int v6)] d_Maker_makeRest_94 (by decide) rfl ?_
        refine j_aload_n C 2 d_Maker_makeRest_96 rfl ?_
        refine gf_Maker_15 C 0 (v := .ref hc) rfl rfl d_Maker_makeRest_97 ?_
        refine j_iload_n C 4 d_Maker_makeRest_100 rfl ?_
        obtain ⟨b17, h⟩ := gd_ok h
        refine j_iald C (1) (t0 := 0) rfl rfl b17 d_Maker_makeRest_101 ?_
        refine j_iload C 0 d_Maker_makeRest_102 rfl ?_
        obtain ⟨r18, hr18, h⟩ := bd_ok h
        refine j_PSN C [.int (col v3.toNatClampNeg), .int (L.2 ((2 : Int32).toNatClampNeg) r15.toNatClampNeg)] (c_ML_difference l D cI cR cZ (col v3.toNatClampNeg) (L.2 ((2 : Int32).toNatClampNeg) r15.toNatClampNeg) hr18) (cw_Maker_137 C ⟨Nat.le_of_ble_eq_true rfl, Nat.le_of_ble_eq_true rfl⟩) [] rfl rfl rfl (Nat.le_of_ble_eq_true rfl) d_Maker_makeRest_104 (by decide) ?_
        refine j_istore C [(9, .int r18), (8, .int (L.2 ((2 : Int32).toNatClampNeg) r15.toNatClampNeg)), (7, .int 2), (0, .ref o0), (2, .int v2), (3, .int v3), (4, .int v4), (5, .int v5), (6, .int v6)] d_Maker_makeRest_107 (by decide) rfl ?_
        refine j_aload_n C 3 d_Maker_makeRest_109 rfl ?_
        refine gf_Maker_9 C 0 (v := .ref (a 0)) rfl rfl d_Maker_makeRest_110 ?_
        refine gf_Maker_85 C 4 (v := .ref (a 1)) rfl rfl d_Maker_makeRest_113 ?_
        refine j_iconst C (v := 3) d_Maker_makeRest_116 (by decide) ?_
        obtain ⟨b19, h⟩ := gd_ok h
        refine j_aald C 5 (t0 := 2) rfl rfl b19 d_Maker_makeRest_117 ?_
        refine j_iload_n C 5 d_Maker_makeRest_118 rfl ?_
        refine j_iload C 0 d_Maker_makeRest_119 rfl ?_
        obtain ⟨b20, h⟩ := gd_ok h
        refine j_iast C (6 + (3 : Int32).toNatClampNeg) (wMk cI cR o0 hc hm hb a n col msk bare (Ls L ((3 : Int32).toNatClampNeg) v3.toNatClampNeg r18)) (t0 := 0) (co_4 (P := fun k => (wMk cI cR o0 hc hm hb a n col msk bare L)[6 + k]? = some (a (2 + k), .inl (cI, n, .inl (L.2 k)))) rfl rfl rfl rfl (in_lt b19)) (co_4 (P := fun k => (wMk cI cR o0 hc hm hb a n col msk bare L).set (6 + k) (a (2 + k), .inl (cI, n, .inl (upd (L.2 k) v3.toNatClampNeg r18))) = wMk cI cR o0 hc hm hb a n col msk bare (Ls L k v3.toNatClampNeg r18)) rfl rfl rfl rfl (in_lt b19)) rfl b20 d_Maker_makeRest_121 ?_
        refine j_iload_n C 4 d_Maker_makeRest_122 rfl ?_
        refine j_if_ne C 131 d_Maker_makeRest_123 (by decide) (fun c22 => ?_) (fun c22 => ?_)
        · replace h := (if_neg c22).symm.trans h
          refine j_iconst C (v := 1) d_Maker_makeRest_131 (by decide) ?_
          refine j_goto C 136 d_Maker_makeRest_132 (by decide) ?_
          refine j_istore_n C [(2, .int 1), (9, .int r18), (8, .int (L.2 ((2 : Int32).toNatClampNeg) r15.toNatClampNeg)), (7, .int 2), (0, .ref o0), (3, .int v3), (4, .int v4), (5, .int v5), (6, .int v6)] d_Maker_makeRest_136 (by decide) rfl ?_
          refine j_iinc C [(3, .int (v3 + 1)), (2, .int 1), (9, .int r18), (8, .int (L.2 ((2 : Int32).toNatClampNeg) r15.toNatClampNeg)), (7, .int 2), (0, .ref o0), (4, .int v4), (5, .int v5), (6, .int v6)] 5 (v3 + 1) d_Maker_makeRest_137 rfl rfl (by decide) rfl ?_
          refine j_iinc C [(6, .int (v6 + 1)), (3, .int (v3 + 1)), (2, .int 1), (9, .int r18), (8, .int (L.2 ((2 : Int32).toNatClampNeg) r15.toNatClampNeg)), (7, .int 2), (0, .ref o0), (4, .int v4), (5, .int v5)] 8 (v6 + 1) d_Maker_makeRest_140 rfl rfl (by decide) rfl ?_
          refine j_goto C 41 d_Maker_makeRest_143 (by decide) ?_
          refine j_sub [6, 2, 1, 7, 8, 0] rfl ?_
          exact ih 1 (v3 + 1) (v6 + 1) (Ls L ((3 : Int32).toNatClampNeg) v3.toNatClampNeg r18) h x0
        · replace h := (if_pos c22).symm.trans h
          refine j_iload C 0 d_Maker_makeRest_126 rfl ?_
          refine j_if_eq C 135 d_Maker_makeRest_128 (by decide) (fun c21 => ?_) (fun c21 => ?_)
          · replace h := (if_pos c21).symm.trans h
            refine j_iconst C (v := 0) d_Maker_makeRest_135 (by decide) ?_
            refine j_istore_n C [(2, .int 0), (9, .int r18), (8, .int (L.2 ((2 : Int32).toNatClampNeg) r15.toNatClampNeg)), (7, .int 2), (0, .ref o0), (3, .int v3), (4, .int v4), (5, .int v5), (6, .int v6)] d_Maker_makeRest_136 (by decide) rfl ?_
            refine j_iinc C [(3, .int (v3 + 1)), (2, .int 0), (9, .int r18), (8, .int (L.2 ((2 : Int32).toNatClampNeg) r15.toNatClampNeg)), (7, .int 2), (0, .ref o0), (4, .int v4), (5, .int v5), (6, .int v6)] 5 (v3 + 1) d_Maker_makeRest_137 rfl rfl (by decide) rfl ?_
            refine j_iinc C [(6, .int (v6 + 1)), (3, .int (v3 + 1)), (2, .int 0), (9, .int r18), (8, .int (L.2 ((2 : Int32).toNatClampNeg) r15.toNatClampNeg)), (7, .int 2), (0, .ref o0), (4, .int v4), (5, .int v5)] 8 (v6 + 1) d_Maker_makeRest_140 rfl rfl (by decide) rfl ?_
            refine j_goto C 41 d_Maker_makeRest_143 (by decide) ?_
            refine j_sub [6, 2, 1, 7, 8, 0] rfl ?_
            exact ih 0 (v3 + 1) (v6 + 1) (Ls L ((3 : Int32).toNatClampNeg) v3.toNatClampNeg r18) h x0
          · replace h := (if_neg c21).symm.trans h
            refine j_iconst C (v := 1) d_Maker_makeRest_131 (by decide) ?_
            refine j_goto C 136 d_Maker_makeRest_132 (by decide) ?_
            refine j_istore_n C [(2, .int 1), (9, .int r18), (8, .int (L.2 ((2 : Int32).toNatClampNeg) r15.toNatClampNeg)), (7, .int 2), (0, .ref o0), (3, .int v3), (4, .int v4), (5, .int v5), (6, .int v6)] d_Maker_makeRest_136 (by decide) rfl ?_
            refine j_iinc C [(3, .int (v3 + 1)), (2, .int 1), (9, .int r18), (8, .int (L.2 ((2 : Int32).toNatClampNeg) r15.toNatClampNeg)), (7, .int 2), (0, .ref o0), (4, .int v4), (5, .int v5), (6, .int v6)] 5 (v3 + 1) d_Maker_makeRest_137 rfl rfl (by decide) rfl ?_
            refine j_iinc C [(6, .int (v6 + 1)), (3, .int (v3 + 1)), (2, .int 1), (9, .int r18), (8, .int (L.2 ((2 : Int32).toNatClampNeg) r15.toNatClampNeg)), (7, .int 2), (0, .ref o0), (4, .int v4), (5, .int v5)] 8 (v6 + 1) d_Maker_makeRest_140 rfl rfl (by decide) rfl ?_
            refine j_goto C 41 d_Maker_makeRest_143 (by decide) ?_
            refine j_sub [6, 2, 1, 7, 8, 0] rfl ?_
            exact ih 1 (v3 + 1) (v6 + 1) (Ls L ((3 : Int32).toNatClampNeg) v3.toNatClampNeg r18) h x0
set_option maxRecDepth 100000 in
set_option maxHeartbeats 4000000 in
theorem t_Maker_makeRest_l31 {p : Program} {l : Launch} {e : Env} {s : State} {m : MethodId} {args : Array Value} {below : List Frame} {meth : Method} {c : Code} {D : va_G} {cI cR cZ : ClassId} {A : Nat → Prop} {Q : State → Prop} (C : Cx p s m args meth c D (tyG cI cR cZ) b_Maker_makeRest 10 "MaskLayers$Maker") (hA : ∀ q : Nat, s.heap.size ≤ q → A q) {o0 : Nat} {hc : Nat} {hm : Nat} {hb : Nat} {a : (Nat → Nat)} {n : Nat} {fu : Nat} {col : (Nat → Int32)} {msk : (Nat → Int32)} {bare : (Nat → Int32)} {v4 : Int32} {out : Nat × Int32 × LyS} : ∀ (k : Nat) (v2 : Int32) (v3 : Int32) (v5 : Int32) (L : LyS), Maker_makeRest_l31 fu n col msk bare v4 k v2 v3 v5 L = some out → (out.1 = 0 → J p l e rm_Maker_makeRest s m args below meth c D A (va_D A) 10 Q 0 0 (wMk cI cR o0 hc hm hb a n col msk bare out.2.2) [(2, .int out.2.1)] [] 152) → J p l e rm_Maker_makeRest s m args below meth c D A (va_D A) 10 Q 0 0 (wMk cI cR o0 hc hm hb a n col msk bare L) [(0, .ref o0), (2, .int v2), (3, .int v3), (4, .int v4), (5, .int v5)] [] 31 := by
  intro k
  induction k with
  | zero => intro v2 v3 v5 L h; cases (show none = some out from h)
  | succ k ih =>
    intro v2 v3 v5 L h x0
    rw [Maker_makeRest_l31] at h
    refine j_iload C 4 d_Maker_makeRest_31 rfl ?_
    refine j_iload C 3 d_Maker_makeRest_33 rfl ?_
    refine j_icmp_ge C 152 d_Maker_makeRest_35 (by decide) (fun c27 => ?_) (fun c27 => ?_)
    · replace h := (if_pos c27).symm.trans h
      obtain rfl := Option.some.inj h
      refine j_sub [1] rfl ?_
      exact x0 rfl
    · replace h := (if_neg c27).symm.trans h
      refine j_iconst C (v := 0) d_Maker_makeRest_38 (by decide) ?_
      refine j_istore C [(6, .int 0), (0, .ref o0), (2, .int v2), (3, .int v3), (4, .int v4), (5, .int v5)] d_Maker_makeRest_39 (by decide) rfl ?_
      obtain ⟨r25, hr25, h⟩ := bd_ok h
      refine j_sub [1, 2, 3, 4, 5, 0] rfl ?_
      refine t_Maker_makeRest_l41 C hA fu v2 v3 0 L hr25 (fun e26 => ?_)
      · refine j_iinc C [(5, .int (v5 + 1)), (0, .ref o0), (2, .int r25.2.1), (3, .int r25.2.2.1), (4, .int v4)] 4 (v5 + 1) d_Maker_makeRest_146 rfl rfl (by decide) rfl ?_
        refine j_goto C 31 d_Maker_makeRest_149 (by decide) ?_
        refine j_sub [1, 2, 3, 4, 0] rfl ?_
        exact ih r25.2.1 r25.2.2.1 (v5 + 1) r25.2.2.2 h x0
set_option maxRecDepth 100000 in
set_option maxHeartbeats 4000000 in
theorem c_Maker_makeRest (l : Launch) (D : va_G) (cI cR cZ : ClassId) (fu : Nat) (o0 : Nat) (hc : Nat) (hm : Nat) (hb : Nat) (a : (Nat → Nat)) (n : Nat) (col : (Nat → Int32)) (msk : (Nat → Int32)) (bare : (Nat → Int32)) (L : LyS) (p1 : Int32) {res : (Int32 × LyS)} (h : Maker_makeRest fu n col msk bare L p1 = some res) (sz : Nat) : Met l y_Maker_makeRest (Cond.code y_Maker_makeRest b_Maker_makeRest 10 (some .boolean) :: BIG) rm_Maker_makeRest (PcI [.ref o0, .int p1] D (tyG cI cR cZ) (wMk cI cR o0 hc hm hb a n col msk bare L) sz) (QcI D res.1 (fun _ : Nat => wMk cI cR o0 hc hm hb a n col msk bare res.2) (va_A (wMk cI cR o0 hc hm hb a n col msk bare L) sz)) 0 0 (va_A (wMk cI cR o0 hc hm hb a n col msk bare L) sz) := by
  refine met_I (by decide) (Nat.le_of_ble_eq_true rfl) (fun p e s m args below meth c A hA C hr => ?_)
  have C : Cx p s m args meth c D (tyG cI cR cZ) b_Maker_makeRest 10 "MaskLayers$Maker" := C
  have hr : meth.sig.returnType = some .boolean := hr
  show J p l e rm_Maker_makeRest s m args below meth c D A (va_D A) 10 (MQ below (QcI D res.1 (fun _ : Nat => wMk cI cR o0 hc hm hb a n col msk bare res.2) A) args s 0 0 A) 0 0 (wMk cI cR o0 hc hm hb a n col msk bare L) [(0, .ref o0), (1, .int p1)] [] 0
  unfold Maker_makeRest at h
  refine j_iconst C (v := 0) d_Maker_makeRest_0 (by decide) ?_
  refine j_istore_n C [(2, .int 0), (0, .ref o0), (1, .int p1)] d_Maker_makeRest_1 (by decide) rfl ?_
  refine j_aload_n C 1 d_Maker_makeRest_2 rfl ?_
  refine gf_Maker_9 C 0 (v := .ref (a 0)) rfl rfl d_Maker_makeRest_3 ?_
  refine j_iload_n C 2 d_Maker_makeRest_6 rfl ?_
  obtain ⟨r1, hr1, h⟩ := bd_ok h
  refine j_PV C [.int p1] 4 rfl rfl (c_Layers_startOf l D cI cR cZ a n L p1 hr1) (cw_Maker_67 C ⟨Nat.le_of_ble_eq_true rfl, Nat.le_of_ble_eq_true rfl⟩) [4, 5, 6, 7, 8, 9, 10, 11, 12] rfl rfl rfl (Nat.le_of_ble_eq_true rfl) d_Maker_makeRest_7 (by decide) ?_
  refine j_istore_n C [(3, .int r1), (2, .int 0), (0, .ref o0), (1, .int p1)] d_Maker_makeRest_10 (by decide) rfl ?_
  refine j_aload_n C 2 d_Maker_makeRest_11 rfl ?_
  refine gf_Maker_9 C 0 (v := .ref (a 0)) rfl rfl d_Maker_makeRest_12 ?_
  refine j_iload_n C 3 d_Maker_makeRest_15 rfl ?_
  obtain ⟨r2, hr2, h⟩ := bd_ok h
  refine j_PV C [.int p1] 4 rfl rfl (c_Layers_bottomOf l D cI cR cZ a n L p1 hr2) (cw_Maker_105 C ⟨Nat.le_of_ble_eq_true rfl, Nat.le_of_ble_eq_true rfl⟩) [4, 5, 6, 7, 8, 9, 10, 11, 12] rfl rfl rfl (Nat.le_of_ble_eq_true rfl) d_Maker_makeRest_16 (by decide) ?_
  refine j_istore C [(4, .int r2), (3, .int r1), (2, .int 0), (0, .ref o0), (1, .int p1)] d_Maker_makeRest_19 (by decide) rfl ?_
  refine j_aload_n C 3 d_Maker_makeRest_21 rfl ?_
  refine gf_Maker_9 C 0 (v := .ref (a 0)) rfl rfl d_Maker_makeRest_22 ?_
  refine j_iload_n C 4 d_Maker_makeRest_25 rfl ?_
  obtain ⟨r3, hr3, h⟩ := bd_ok h
  refine j_PV C [.int p1] 4 rfl rfl (c_Layers_topOf l D cI cR cZ a n L p1 hr3) (cw_Maker_102 C ⟨Nat.le_of_ble_eq_true rfl, Nat.le_of_ble_eq_true rfl⟩) [4, 5, 6, 7, 8, 9, 10, 11, 12] rfl rfl rfl (Nat.le_of_ble_eq_true rfl) d_Maker_makeRest_26 (by decide) ?_
  refine j_istore C [(5, .int r3), (4, .int r2), (3, .int r1), (2, .int 0), (0, .ref o0), (1, .int p1)] d_Maker_makeRest_29 (by decide) rfl ?_
  obtain ⟨r28, hr28, h⟩ := bd_ok h
  refine j_sub [4, 3, 2, 1, 0] rfl ?_
  refine t_Maker_makeRest_l31 C hA fu 0 r1 r3 L hr28 (fun e30 => ?_)
  · refine j_iload_n C 0 d_Maker_makeRest_152 rfl ?_
    obtain ⟨b29, h⟩ := zb_ok h
    obtain rfl := Option.some.inj h
    exact j_iretZ C hr d_Maker_makeRest_153 b29 0 rfl
def Maker_makeStripe_b83 (fu : Nat) (n : Nat) (col : (Nat → Int32)) (msk : (Nat → Int32)) (bare : (Nat → Int32)) (L : LyS) (v1 : Int32) (v2 : Int32) : Option ((Nat → Int32) × LyS) :=
  (if v2 = 0 then some (bare, L)
  else (Maker_makeRest fu n col msk bare L v1).bind fun r4 =>
  (if r4.1 = 0 then some (bare, r4.2)
  else (Layers_add n r4.2 v1 3).bind fun r5 =>
  some (bare, r5)))
def Maker_makeStripe_b49 (fu : Nat) (n : Nat) (col : (Nat → Int32)) (msk : (Nat → Int32)) (bare : (Nat → Int32)) (L : LyS) (v1 : Int32) (v2 : Int32) (v3 : Int32) : Option ((Nat → Int32) × LyS) :=
  (if v3 ≤ 0 then Maker_makeStripe_b83 fu n col msk bare L v1 v2
  else (Layers_add n L v1 1).bind fun r8 =>
  (Maker_makeBlocks fu n col msk bare r8 v1 2).bind fun r9 =>
  (Maker_fillBlocks fu n col msk bare r9.2 v1 2 r9.1).bind fun r10 =>
  (Layers_add n r10.2 v1 2).bind fun r11 =>
  Maker_makeStripe_b83 fu n col msk r10.1 r11 v1 v2)
def Maker_makeStripe (fu : Nat) (n : Nat) (col : (Nat → Int32)) (msk : (Nat → Int32)) (bare : (Nat → Int32)) (L : LyS) (p1 : Int32) (p2 : Int32) : Option ((Nat → Int32) × LyS) :=
  (Maker_takeMask fu n col msk bare L p1).bind fun r1 =>
  (Layers_endOf n r1.2 p1 1).bind fun r2 =>
  (Layers_startOf n r1.2 p1).bind fun r3 =>
  (if (r2 - r3) ≤ r1.1 then Maker_makeStripe_b49 fu n col msk bare r1.2 p1 p2 r1.1
  else (Maker_makeBlocks fu n col msk bare r1.2 p1 0).bind fun r13 =>
  (Maker_fillBlocks fu n col msk bare r13.2 p1 0 r13.1).bind fun r14 =>
  (Layers_add n r14.2 p1 0).bind fun r15 =>
  Maker_makeStripe_b49 fu n col msk r14.1 r15 p1 p2 r1.1)
set_option maxRecDepth 100000 in
set_option maxHeartbeats 4000000 in
theorem t_Maker_makeStripe_b83 {p : Program} {l : Launch} {e : Env} {s : State} {m : MethodId} {args : Array Value} {below : List Frame} {meth : Method} {c : Code} {D : va_G} {cI cR cZ : ClassId} {A : Nat → Prop} (C : Cx p s m args meth c D (tyG cI cR cZ) b_Maker_makeStripe 4 "MaskLayers$Maker") (hr : meth.sig.returnType = none) (hA : ∀ q : Nat, s.heap.size ≤ q → A q) {o0 : Nat} {hc : Nat} {hm : Nat} {hb : Nat} {a : (Nat → Nat)} {n : Nat} {col : (Nat → Int32)} {msk : (Nat → Int32)} {bare : (Nat → Int32)} {L : LyS} {fu : Nat} {v1 : Int32} {v2 : Int32} {res : ((Nat → Int32) × LyS)} (h : Maker_makeStripe_b83 fu n col msk bare L v1 v2 = some res) : J p l e rm_Maker_makeStripe s m args below meth c D A (va_D A) 4 (MQ below (QcV D (fun _ : Nat => wMk cI cR o0 hc hm hb a n col msk res.1 res.2) A) args s 0 0 A) 0 0 (wMk cI cR o0 hc hm hb a n col msk bare L) [(0, .ref o0), (1, .int v1), (2, .int v2)] [] 83 := by
  unfold Maker_makeStripe_b83 at h
  refine j_iload_n C 2 d_Maker_makeStripe_83 rfl ?_
  refine j_if_eq C 104 d_Maker_makeStripe_84 (by decide) (fun c7 => ?_) (fun c7 => ?_)
  · replace h := (if_pos c7).symm.trans h
    obtain rfl := Option.some.inj h
    exact j_vret C hr d_Maker_makeStripe_104 0 rfl
  · replace h := (if_neg c7).symm.trans h
    refine j_aload_n C 0 d_Maker_makeStripe_87 rfl ?_
    refine j_iload_n C 1 d_Maker_makeStripe_88 rfl ?_
    obtain ⟨r4, hr4, h⟩ := bd_ok h
    refine j_IV C [.int v1] hA 0 rfl rfl (c_Maker_makeRest l D cI cR cZ fu o0 hc hm hb a n col msk bare L v1 hr4) (cw_Maker_81 C ⟨Nat.le_of_ble_eq_true rfl, Nat.le_of_ble_eq_true rfl⟩) [0, 1, 2, 3, 4, 5, 6, 7, 8, 9, 10, 11, 12] [] rfl rfl (by decide) (by decide) (by decide) rfl rfl (Nat.le_of_ble_eq_true rfl) d_Maker_makeStripe_89 (by decide) (fun _ => ?_)
    refine j_ws (ws' := wMk cI cR o0 hc hm hb a n col msk bare r4.2) rfl ?_
    refine j_if_eq C 104 d_Maker_makeStripe_92 (by decide) (fun c6 => ?_) (fun c6 => ?_)
    · replace h := (if_pos c6).symm.trans h
      obtain rfl := Option.some.inj h
      exact j_vret C hr d_Maker_makeStripe_104 0 rfl
    · replace h := (if_neg c6).symm.trans h
      refine j_aload_n C 0 d_Maker_makeStripe_95 rfl ?_
      refine gf_Maker_9 C 0 (v := .ref (a 0)) rfl rfl d_Maker_makeStripe_96 ?_
      refine j_iload_n C 1 d_Maker_makeStripe_99 rfl ?_
      refine j_iconst C (v := 3) d_Maker_makeStripe_100 (by decide) ?_
      obtain ⟨r5, hr5, h⟩ := bd_ok h
      refine j_VV C [.int v1, .int 3] hA 4 rfl rfl (c_Layers_add l D cI cR cZ a n r4.2 v1 3 hr5) (cw_Maker_77 C ⟨Nat.le_of_ble_eq_true rfl, Nat.le_of_ble_eq_true rfl⟩) [4, 5, 6, 7, 8, 9, 10, 11, 12] [0, 1, 2, 3] rfl rfl (by decide) (by decide) (by decide) rfl rfl (Nat.le_of_ble_eq_true rfl) d_Maker_makeStripe_101 (by decide) (fun _ => ?_)
      refine j_ws (ws' := wMk cI cR o0 hc hm hb a n col msk bare r5) rfl ?_
      obtain rfl := Option.some.inj h
      exact j_vret C hr d_Maker_makeStripe_104 0 rfl
set_option maxRecDepth 100000 in
set_option maxHeartbeats 4000000 in
theorem t_Maker_makeStripe_b49 {p : Program} {l : Launch} {e : Env} {s : State} {m : MethodId} {args : Array Value} {below : List Frame} {meth : Method} {c : Code} {D : va_G} {cI cR cZ : ClassId} {A : Nat → Prop} (C : Cx p s m args meth c D (tyG cI cR cZ) b_Maker_makeStripe 4 "MaskLayers$Maker") (hr : meth.sig.returnType = none) (hA : ∀ q : Nat, s.heap.size ≤ q → A q) {o0 : Nat} {hc : Nat} {hm : Nat} {hb : Nat} {a : (Nat → Nat)} {n : Nat} {col : (Nat → Int32)} {msk : (Nat → Int32)} {bare : (Nat → Int32)} {L : LyS} {fu : Nat} {v1 : Int32} {v2 : Int32} {v3 : Int32} {res : ((Nat → Int32) × LyS)} (h : Maker_makeStripe_b49 fu n col msk bare L v1 v2 v3 = some res) : J p l e rm_Maker_makeStripe s m args below meth c D A (va_D A) 4 (MQ below (QcV D (fun _ : Nat => wMk cI cR o0 hc hm hb a n col msk res.1 res.2) A) args s 0 0 A) 0 0 (wMk cI cR o0 hc hm hb a n col msk bare L) [(0, .ref o0), (1, .int v1), (2, .int v2), (3, .int v3)] [] 49 := by
  unfold Maker_makeStripe_b49 at h
  refine j_iload_n C 3 d_Maker_makeStripe_49 rfl ?_
  refine j_if_le C 83 d_Maker_makeStripe_50 (by decide) (fun c12 => ?_) (fun c12 => ?_)
  · replace h := (if_pos c12).symm.trans h
    refine j_sub [0, 1, 2] rfl ?_
    exact t_Maker_makeStripe_b83 C hr hA h
  · replace h := (if_neg c12).symm.trans h
    refine j_aload_n C 0 d_Maker_makeStripe_53 rfl ?_
    refine gf_Maker_9 C 0 (v := .ref (a 0)) rfl rfl d_Maker_makeStripe_54 ?_
    refine j_iload_n C 1 d_Maker_makeStripe_57 rfl ?_
    refine j_iconst C (v := 1) d_Maker_makeStripe_58 (by decide) ?_
    obtain ⟨r8, hr8, h⟩ := bd_ok h
    refine j_VV C [.int v1, .int 1] hA 4 rfl rfl (c_Layers_add l D cI cR cZ a n L v1 1 hr8) (cw_Maker_77 C ⟨Nat.le_of_ble_eq_true rfl, Nat.le_of_ble_eq_true rfl⟩) [4, 5, 6, 7, 8, 9, 10, 11, 12] [0, 1, 2, 3] rfl rfl (by decide) (by decide) (by decide) rfl rfl (Nat.le_of_ble_eq_true rfl) d_Maker_makeStripe_59 (by decide) (fun _ => ?_)
    refine j_ws (ws' := wMk cI cR o0 hc hm hb a n col msk bare r8) rfl ?_
    refine j_aload_n C 0 d_Maker_makeStripe_62 rfl ?_
    refine j_iload_n C 1 d_Maker_makeStripe_63 rfl ?_
    refine j_iconst C (v := 2) d_Maker_makeStripe_64 (by decide) ?_
    refine j_aload_n C 0 d_Maker_makeStripe_65 rfl ?_
    refine j_iload_n C 1 d_Maker_makeStripe_66 rfl ?_
    refine j_iconst C (v := 2) d_Maker_makeStripe_67 (by decide) ?_
    obtain ⟨r9, hr9, h⟩ := bd_ok h
    refine j_IV C [.int v1, .int 2] hA 0 rfl rfl (c_Maker_makeBlocks l D cI cR cZ fu o0 hc hm hb a n col msk bare r8 v1 2 hr9) (cw_Maker_70 C ⟨Nat.le_of_ble_eq_true rfl, Nat.le_of_ble_eq_true rfl⟩) [0, 1, 2, 3, 4, 5, 6, 7, 8, 9, 10, 11, 12] [] rfl rfl (by decide) (by decide) (by decide) rfl rfl (Nat.le_of_ble_eq_true rfl) d_Maker_makeStripe_68 (by decide) (fun _ => ?_)
    refine j_ws (ws' := wMk cI cR o0 hc hm hb a n col msk bare r9.2) rfl ?_
    obtain ⟨r10, hr10, h⟩ := bd_ok h
    refine j_VV C [.int v1, .int 2, .int r9.1] hA 0 rfl rfl (c_Maker_fillBlocks l D cI cR cZ fu o0 hc hm hb a n col msk bare r9.2 v1 2 r9.1 hr10) (cw_Maker_73 C ⟨Nat.le_of_ble_eq_true rfl, Nat.le_of_ble_eq_true rfl⟩) [0, 1, 2, 3, 4, 5, 6, 7, 8, 9, 10, 11, 12] [] rfl rfl (by decide) (by decide) (by decide) rfl rfl (Nat.le_of_ble_eq_true rfl) d_Maker_makeStripe_71 (by decide) (fun _ => ?_)
    refine j_ws (ws' := wMk cI cR o0 hc hm hb a n col msk r10.1 r10.2) rfl ?_
    refine j_aload_n C 0 d_Maker_makeStripe_74 rfl ?_
    refine gf_Maker_9 C 0 (v := .ref (a 0)) rfl rfl d_Maker_makeStripe_75 ?_
    refine j_iload_n C 1 d_Maker_makeStripe_78 rfl ?_
    refine j_iconst C (v := 2) d_Maker_makeStripe_79 (by decide) ?_
    obtain ⟨r11, hr11, h⟩ := bd_ok h
    refine j_VV C [.int v1, .int 2] hA 4 rfl rfl (c_Layers_add l D cI cR cZ a n r10.2 v1 2 hr11) (cw_Maker_77 C ⟨Nat.le_of_ble_eq_true rfl, Nat.le_of_ble_eq_true rfl⟩) [4, 5, 6, 7, 8, 9, 10, 11, 12] [0, 1, 2, 3] rfl rfl (by decide) (by decide) (by decide) rfl rfl (Nat.le_of_ble_eq_true rfl) d_Maker_makeStripe_80 (by decide) (fun _ => ?_)
    refine j_ws (ws' := wMk cI cR o0 hc hm hb a n col msk r10.1 r11) rfl ?_
    refine j_sub [0, 1, 2] rfl ?_
    exact t_Maker_makeStripe_b83 C hr hA h
set_option maxRecDepth 100000 in
set_option maxHeartbeats 4000000 in
theorem c_Maker_makeStripe (l : Launch) (D : va_G) (cI cR cZ : ClassId) (fu : Nat) (o0 : Nat) (hc : Nat) (hm : Nat) (hb : Nat) (a : (Nat → Nat)) (n : Nat) (col : (Nat → Int32)) (msk : (Nat → Int32)) (bare : (Nat → Int32)) (L : LyS) (p1 : Int32) (p2 : Int32) {res : ((Nat → Int32) × LyS)} (h : Maker_makeStripe fu n col msk bare L p1 p2 = some res) (sz : Nat) : Met l y_Maker_makeStripe (Cond.code y_Maker_makeStripe b_Maker_makeStripe 4 none :: BIG) rm_Maker_makeStripe (PcI [.ref o0, .int p1, .int p2] D (tyG cI cR cZ) (wMk cI cR o0 hc hm hb a n col msk bare L) sz) (QcV D (fun _ : Nat => wMk cI cR o0 hc hm hb a n col msk res.1 res.2) (va_A (wMk cI cR o0 hc hm hb a n col msk bare L) sz)) 0 0 (va_A (wMk cI cR o0 hc hm hb a n col msk bare L) sz) := by
  refine met_V (by decide) (Nat.le_of_ble_eq_true rfl) (fun p e s m args below meth c A hA C hr => ?_)
  have C : Cx p s m args meth c D (tyG cI cR cZ) b_Maker_makeStripe 4 "MaskLayers$Maker" := C
  have hr : meth.sig.returnType = none := hr
  show J p l e rm_Maker_makeStripe s m args below meth c D A (va_D A) 4 (MQ below (QcV D (fun _ : Nat => wMk cI cR o0 hc hm hb a n col msk res.1 res.2) A) args s 0 0 A) 0 0 (wMk cI cR o0 hc hm hb a n col msk bare L) [(0, .ref o0), (1, .int p1), (2, .int p2)] [] 0
  unfold Maker_makeStripe at h
  refine j_aload_n C 0 d_Maker_makeStripe_0 rfl ?_
  refine j_iload_n C 1 d_Maker_makeStripe_1 rfl ?_
  obtain ⟨r1, hr1, h⟩ := bd_ok h
  refine j_IV C [.int p1] hA 0 rfl rfl (c_Maker_takeMask l D cI cR cZ fu o0 hc hm hb a n col msk bare L p1 hr1) (cw_Maker_60 C ⟨Nat.le_of_ble_eq_true rfl, Nat.le_of_ble_eq_true rfl⟩) [0, 1, 2, 3, 4, 5, 6, 7, 8, 9, 10, 11, 12] [] rfl rfl (by decide) (by decide) (by decide) rfl rfl (Nat.le_of_ble_eq_true rfl) d_Maker_makeStripe_2 (by decide) (fun _ => ?_)
  refine j_ws (ws' := wMk cI cR o0 hc hm hb a n col msk bare r1.2) rfl ?_
  refine j_istore_n C [(3, .int r1.1), (0, .ref o0), (1, .int p1), (2, .int p2)] d_Maker_makeStripe_5 (by decide) rfl ?_
  refine j_iload_n C 0 d_Maker_makeStripe_6 rfl ?_
  refine j_aload_n C 1 d_Maker_makeStripe_7 rfl ?_
  refine gf_Maker_9 C 0 (v := .ref (a 0)) rfl rfl d_Maker_makeStripe_8 ?_
  refine j_iload_n C 2 d_Maker_makeStripe_11 rfl ?_
  refine j_iconst C (v := 1) d_Maker_makeStripe_12 (by decide) ?_
  obtain ⟨r2, hr2, h⟩ := bd_ok h
  refine j_PV C [.int p1, .int 1] 4 rfl rfl (c_Layers_endOf l D cI cR cZ a n r1.2 p1 1 hr2) (cw_Maker_63 C ⟨Nat.le_of_ble_eq_true rfl, Nat.le_of_ble_eq_true rfl⟩) [4, 5, 6, 7, 8, 9, 10, 11, 12] rfl rfl rfl (Nat.le_of_ble_eq_true rfl) d_Maker_makeStripe_13 (by decide) ?_
  refine j_aload_n C 1 d_Maker_makeStripe_16 rfl ?_
  refine gf_Maker_9 C 0 (v := .ref (a 0)) rfl rfl d_Maker_makeStripe_17 ?_
  refine j_iload_n C 2 d_Maker_makeStripe_20 rfl ?_
  obtain ⟨r3, hr3, h⟩ := bd_ok h
  refine j_PV C [.int p1] 4 rfl rfl (c_Layers_startOf l D cI cR cZ a n r1.2 p1 hr3) (cw_Maker_67 C ⟨Nat.le_of_ble_eq_true rfl, Nat.le_of_ble_eq_true rfl⟩) [4, 5, 6, 7, 8, 9, 10, 11, 12] rfl rfl rfl (Nat.le_of_ble_eq_true rfl) d_Maker_makeStripe_21 (by decide) ?_
  refine j_isub C d_Maker_makeStripe_24 ?_
  refine j_icmp_ge C 49 d_Maker_makeStripe_25 (by decide) (fun c16 => ?_) (fun c16 => ?_)
  · replace h := (if_pos c16).symm.trans h
    refine j_sub [1, 2, 3, 0] rfl ?_
    exact t_Maker_makeStripe_b49 C hr hA h
  · replace h := (if_neg c16).symm.trans h
    refine j_aload_n C 1 d_Maker_makeStripe_28 rfl ?_
    refine j_iload_n C 2 d_Maker_makeStripe_29 rfl ?_
    refine j_iconst C (v := 0) d_Maker_makeStripe_30 (by decide) ?_
    refine j_aload_n C 1 d_Maker_makeStripe_31 rfl ?_
    refine j_iload_n C 2 d_Maker_makeStripe_32 rfl ?_
    refine j_iconst C (v := 0) d_Maker_makeStripe_33 (by decide) ?_
    obtain ⟨r13, hr13, h⟩ := bd_ok h
    refine j_IV C [.int p1, .int 0] hA 0 rfl rfl (c_Maker_makeBlocks l D cI cR cZ fu o0 hc hm hb a n col msk bare r1.2 p1 0 hr13) (cw_Maker_70 C ⟨Nat.le_of_ble_eq_true rfl, Nat.le_of_ble_eq_true rfl⟩) [0, 1, 2, 3, 4, 5, 6, 7, 8, 9, 10, 11, 12] [] rfl rfl (by decide) (by decide) (by decide) rfl rfl (Nat.le_of_ble_eq_true rfl) d_Maker_makeStripe_34 (by decide) (fun _ => ?_)
    refine j_ws (ws' := wMk cI cR o0 hc hm hb a n col msk bare r13.2) rfl ?_
    obtain ⟨r14, hr14, h⟩ := bd_ok h
    refine j_VV C [.int p1, .int 0, .int r13.1] hA 0 rfl rfl (c_Maker_fillBlocks l D cI cR cZ fu o0 hc hm hb a n col msk bare r13.2 p1 0 r13.1 hr14) (cw_Maker_73 C ⟨Nat.le_of_ble_eq_true rfl, Nat.le_of_ble_eq_true rfl⟩) [0, 1, 2, 3, 4, 5, 6, 7, 8, 9, 10, 11, 12] [] rfl rfl (by decide) (by decide) (by decide) rfl rfl (Nat.le_of_ble_eq_true rfl) d_Maker_makeStripe_37 (by decide) (fun _ => ?_)
    refine j_ws (ws' := wMk cI cR o0 hc hm hb a n col msk r14.1 r14.2) rfl ?_
    refine j_aload_n C 1 d_Maker_makeStripe_40 rfl ?_
    refine gf_Maker_9 C 0 (v := .ref (a 0)) rfl rfl d_Maker_makeStripe_41 ?_
    refine j_iload_n C 2 d_Maker_makeStripe_44 rfl ?_
    refine j_iconst C (v := 0) d_Maker_makeStripe_45 (by decide) ?_
    obtain ⟨r15, hr15, h⟩ := bd_ok h
    refine j_VV C [.int p1, .int 0] hA 4 rfl rfl (c_Layers_add l D cI cR cZ a n r14.2 p1 0 hr15) (cw_Maker_77 C ⟨Nat.le_of_ble_eq_true rfl, Nat.le_of_ble_eq_true rfl⟩) [4, 5, 6, 7, 8, 9, 10, 11, 12] [0, 1, 2, 3] rfl rfl (by decide) (by decide) (by decide) rfl rfl (Nat.le_of_ble_eq_true rfl) d_Maker_makeStripe_46 (by decide) (fun _ => ?_)
    refine j_ws (ws' := wMk cI cR o0 hc hm hb a n col msk r14.1 r15) rfl ?_
    refine j_sub [1, 2, 3, 0] rfl ?_
    exact t_Maker_makeStripe_b49 C hr hA h
def Maker_makeAll_l17 (fu : Nat) (n : Nat) (col : (Nat → Int32)) (msk : (Nat → Int32)) (v1 : Int32) : Nat → Int32 → (Nat → Int32) → LyS → Option (Nat × (Nat → Int32) × LyS)
  | 0, _, _, _ => none
  | k + 1, v2, bare, L =>
  (Layers_stripes n L).bind fun r3 =>
  (if r3 ≤ v2 then some (0, bare, L)
  else (Maker_makeStripe fu n col msk bare L v2 v1).bind fun r4 =>
  Maker_makeAll_l17 fu n col msk v1 k (v2 + 1) r4.1 r4.2)
def Maker_makeAll (fu : Nat) (n : Nat) (col : (Nat → Int32)) (msk : (Nat → Int32)) (bare : (Nat → Int32)) (L : LyS) (p1 : Int32) : Option (Int32 × (Nat → Int32) × LyS) :=
  (Layers_forget fu n L).bind fun r1 =>
  (Arrays_fill fu n bare 0).bind fun r2 =>
  (Maker_makeAll_l17 fu n col msk p1 fu 0 r2 r1).bind fun r6 =>
  some (r6.2.2.1 3, r6.2.1, r6.2.2)
set_option maxRecDepth 100000 in
set_option maxHeartbeats 4000000 in
theorem t_Maker_makeAll_l17 {p : Program} {l : Launch} {e : Env} {s : State} {m : MethodId} {args : Array Value} {below : List Frame} {meth : Method} {c : Code} {D : va_G} {cI cR cZ : ClassId} {A : Nat → Prop} {Q : State → Prop} (C : Cx p s m args meth c D (tyG cI cR cZ) b_Maker_makeAll 3 "MaskLayers$Maker") (hA : ∀ q : Nat, s.heap.size ≤ q → A q) {o0 : Nat} {hc : Nat} {hm : Nat} {hb : Nat} {a : (Nat → Nat)} {n : Nat} {fu : Nat} {col : (Nat → Int32)} {msk : (Nat → Int32)} {v1 : Int32} {out : Nat × (Nat → Int32) × LyS} : ∀ (k : Nat) (v2 : Int32) (bare : (Nat → Int32)) (L : LyS), Maker_makeAll_l17 fu n col msk v1 k v2 bare L = some out → (out.1 = 0 → J p l e rm_Maker_makeAll s m args below meth c D A (va_D A) 3 Q 0 0 (wMk cI cR o0 hc hm hb a n col msk out.2.1 out.2.2) [(0, .ref o0)] [] 40) → J p l e rm_Maker_makeAll s m args below meth c D A (va_D A) 3 Q 0 0 (wMk cI cR o0 hc hm hb a n col msk bare L) [(0, .ref o0), (1, .int v1), (2, .int v2)] [] 17 := by
  intro k
  induction k with
  | zero => intro v2 bare L h; cases (show none = some out from h)
  | succ k ih =>
    intro v2 bare L h x0
    rw [Maker_makeAll_l17] at h
    refine j_iload_n C 2 d_Maker_makeAll_17 rfl ?_
    refine j_aload_n C 0 d_Maker_makeAll_18 rfl ?_
    refine gf_Maker_9 C 0 (v := .ref (a 0)) rfl rfl d_Maker_makeAll_19 ?_
    obtain ⟨r3, hr3, h⟩ := bd_ok h
    refine j_PV C [] 4 rfl rfl (c_Layers_stripes l D cI cR cZ a n L hr3) (cw_Maker_36 C ⟨Nat.le_of_ble_eq_true rfl, Nat.le_of_ble_eq_true rfl⟩) [4, 5, 6, 7, 8, 9, 10, 11, 12] rfl rfl rfl (Nat.le_of_ble_eq_true rfl) d_Maker_makeAll_22 (by decide) ?_
    refine j_icmp_ge C 40 d_Maker_makeAll_25 (by decide) (fun c5 => ?_) (fun c5 => ?_)
    · replace h := (if_pos c5).symm.trans h
      obtain rfl := Option.some.inj h
      refine j_sub [0] rfl ?_
      exact x0 rfl
    · replace h := (if_neg c5).symm.trans h
      refine j_aload_n C 0 d_Maker_makeAll_28 rfl ?_
      refine j_iload_n C 2 d_Maker_makeAll_29 rfl ?_
      refine j_iload_n C 1 d_Maker_makeAll_30 rfl ?_
      obtain ⟨r4, hr4, h⟩ := bd_ok h
      refine j_VV C [.int v2, .int v1] hA 0 rfl rfl (c_Maker_makeStripe l D cI cR cZ fu o0 hc hm hb a n col msk bare L v2 v1 hr4) (cw_Maker_40 C ⟨Nat.le_of_ble_eq_true rfl, Nat.le_of_ble_eq_true rfl⟩) [0, 1, 2, 3, 4, 5, 6, 7, 8, 9, 10, 11, 12] [] rfl rfl (by decide) (by decide) (by decide) rfl rfl (Nat.le_of_ble_eq_true rfl) d_Maker_makeAll_31 (by decide) (fun _ => ?_)
      refine j_ws (ws' := wMk cI cR o0 hc hm hb a n col msk r4.1 r4.2) rfl ?_
      refine j_iinc C [(2, .int (v2 + 1)), (0, .ref o0), (1, .int v1)] 2 (v2 + 1) d_Maker_makeAll_34 rfl rfl (by decide) rfl ?_
      refine j_goto C 17 d_Maker_makeAll_37 (by decide) ?_
      refine j_sub [1, 2, 0] rfl ?_
      exact ih (v2 + 1) r4.1 r4.2 h x0
set_option maxRecDepth 100000 in
set_option maxHeartbeats 4000000 in
theorem c_Maker_makeAll (l : Launch) (D : va_G) (cI cR cZ : ClassId) (fu : Nat) (o0 : Nat) (hc : Nat) (hm : Nat) (hb : Nat) (a : (Nat → Nat)) (n : Nat) (col : (Nat → Int32)) (msk : (Nat → Int32)) (bare : (Nat → Int32)) (L : LyS) (p1 : Int32) {res : (Int32 × (Nat → Int32) × LyS)} (h : Maker_makeAll fu n col msk bare L p1 = some res) (sz : Nat) : Met l y_Maker_makeAll (Cond.code y_Maker_makeAll b_Maker_makeAll 3 (some .int) :: BIG) rm_Maker_makeAll (PcI [.ref o0, .int p1] D (tyG cI cR cZ) (wMk cI cR o0 hc hm hb a n col msk bare L) sz) (QcI D res.1 (fun _ : Nat => wMk cI cR o0 hc hm hb a n col msk res.2.1 res.2.2) (va_A (wMk cI cR o0 hc hm hb a n col msk bare L) sz)) 0 0 (va_A (wMk cI cR o0 hc hm hb a n col msk bare L) sz) := by
  refine met_I (by decide) (Nat.le_of_ble_eq_true rfl) (fun p e s m args below meth c A hA C hr => ?_)
  have C : Cx p s m args meth c D (tyG cI cR cZ) b_Maker_makeAll 3 "MaskLayers$Maker" := C
  have hr : meth.sig.returnType = some .int := hr
  show J p l e rm_Maker_makeAll s m args below meth c D A (va_D A) 3 (MQ below (QcI D res.1 (fun _ : Nat => wMk cI cR o0 hc hm hb a n col msk res.2.1 res.2.2) A) args s 0 0 A) 0 0 (wMk cI cR o0 hc hm hb a n col msk bare L) [(0, .ref o0), (1, .int p1)] [] 0
  unfold Maker_makeAll at h
  refine j_aload_n C 0 d_Maker_makeAll_0 rfl ?_
  refine gf_Maker_9 C 0 (v := .ref (a 0)) rfl rfl d_Maker_makeAll_1 ?_
  obtain ⟨r1, hr1, h⟩ := bd_ok h
  refine j_VV C [] hA 4 rfl rfl (c_Layers_forget l D cI cR cZ fu a n L hr1) (cw_Maker_25 C ⟨Nat.le_of_ble_eq_true rfl, Nat.le_of_ble_eq_true rfl⟩) [4, 5, 6, 7, 8, 9, 10, 11, 12] [0, 1, 2, 3] rfl rfl (by decide) (by decide) (by decide) rfl rfl (Nat.le_of_ble_eq_true rfl) d_Maker_makeAll_4 (by decide) (fun _ => ?_)
  refine j_ws (ws' := wMk cI cR o0 hc hm hb a n col msk bare r1) rfl ?_
  refine j_aload_n C 0 d_Maker_makeAll_7 rfl ?_
  refine gf_Maker_22 C 0 (v := .ref hb) rfl rfl d_Maker_makeAll_8 ?_
  refine j_iconst C (v := 0) d_Maker_makeAll_11 (by decide) ?_
  obtain ⟨r2, hr2, h⟩ := bd_ok h
  refine j_VS C [.ref hb, .int 0] hA (c_Arrays_fill l D cI cR cZ fu hb n bare 0 hr2) (cw_Maker_30 C ⟨Nat.le_of_ble_eq_true rfl, Nat.le_of_ble_eq_true rfl⟩) [3] [0, 1, 2, 4, 5, 6, 7, 8, 9, 10, 11, 12] rfl rfl (by decide) (by decide) (by decide) rfl rfl (Nat.le_of_ble_eq_true rfl) d_Maker_makeAll_12 (by decide) (fun _ => ?_)
  refine j_perm [0, 1, 2, 12, 3, 4, 5, 6, 7, 8, 9, 10, 11] (ws' := wMk cI cR o0 hc hm hb a n col msk r2 r1) rfl (by decide) ?_
  refine j_iconst C (v := 0) d_Maker_makeAll_15 (by decide) ?_
  refine j_istore_n C [(2, .int 0), (0, .ref o0), (1, .int p1)] d_Maker_makeAll_16 (by decide) rfl ?_
  obtain ⟨r6, hr6, h⟩ := bd_ok h
  refine j_sub [1, 2, 0] rfl ?_
  refine t_Maker_makeAll_l17 C hA fu 0 r2 r1 hr6 (fun e7 => ?_)
  · refine j_aload_n C 0 d_Maker_makeAll_40 rfl ?_
    refine gf_Maker_9 C 0 (v := .ref (a 0)) rfl rfl d_Maker_makeAll_41 ?_
    refine gf_Maker_44 C 4 (v := .int (r6.2.2.1 3)) rfl rfl d_Maker_makeAll_44 ?_
    obtain rfl := Option.some.inj h
    exact j_iret C hr d_Maker_makeAll_47 0 rfl
end
section
def Writer_runEnds (n : Nat) (v : (Nat → Int32)) (p2 : Int32) (p3 : Int32) (p4 : Int32) : Option Int32 :=
  (if p3 ≤ (p2 + 1) then zb 1 (some 1)
  else (if 255 ≤ p4 then zb 1 (some 1)
  else gd (p2 + 1) n (gd p2 n ((if (v ((p2 + 1).toNatClampNeg)) = (v p2.toNatClampNeg) then zb 0 (some 0)
  else zb 1 (some 1))))))
set_option maxRecDepth 100000 in
set_option maxHeartbeats 4000000 in
theorem c_Writer_runEnds (l : Launch) (D : va_G) (cI cR cZ : ClassId) (g : Nat) (n : Nat) (v : (Nat → Int32)) (p2 : Int32) (p3 : Int32) (p4 : Int32) {res : Int32} (h : Writer_runEnds n v p2 p3 p4 = some res) : Met l y_Writer_runEnds (Cond.code y_Writer_runEnds b_Writer_runEnds 4 (some .boolean) :: BIG) rm_Writer_runEnds (PcP [.ref g, .int p2, .int p3, .int p4] D (tyG cI cR cZ) ([(g, .inl (cI, n, .inl v))])) (QcP res) 0 0 no := by
  refine met_P (by decide) (Nat.le_of_ble_eq_true rfl) (fun p e s m args below meth c C hr => ?_)
  have C : Cx p s m args meth c D (tyG cI cR cZ) b_Writer_runEnds 4 "MaskLayers$Writer" := C
  have hr : meth.sig.returnType = some .boolean := hr
  show J p l e rm_Writer_runEnds s m args below meth c D no (fun _ => True) 4 (MQ below (QcP res) args s 0 0 no) 0 0 ([(g, .inl (cI, n, .inl v))]) [(0, .ref g), (1, .int p2), (2, .int p3), (3, .int p4)] [] 0
  unfold Writer_runEnds at h
  refine j_iload_n C 1 d_Writer_runEnds_0 rfl ?_
  refine j_iconst C (v := 1) d_Writer_runEnds_1 (by decide) ?_
  refine j_iadd C d_Writer_runEnds_2 ?_
  refine j_iload_n C 2 d_Writer_runEnds_3 rfl ?_
  refine j_icmp_ge C 25 d_Writer_runEnds_4 (by decide) (fun c9 => ?_) (fun c9 => ?_)
  · replace h := (if_pos c9).symm.trans h
    refine j_iconst C (v := 1) d_Writer_runEnds_25 (by decide) ?_
    refine j_goto C 30 d_Writer_runEnds_26 (by decide) ?_
    obtain ⟨b1, h⟩ := zb_ok h
    obtain rfl := Option.some.inj h
    exact j_pretZ C hr d_Writer_runEnds_30 b1
  · replace h := (if_neg c9).symm.trans h
    refine j_iload_n C 3 d_Writer_runEnds_7 rfl ?_
    refine j_sipush C (v := 255) d_Writer_runEnds_8 (by decide) ?_
    refine j_icmp_ge C 25 d_Writer_runEnds_11 (by decide) (fun c8 => ?_) (fun c8 => ?_)
    · replace h := (if_pos c8).symm.trans h
      refine j_iconst C (v := 1) d_Writer_runEnds_25 (by decide) ?_
      refine j_goto C 30 d_Writer_runEnds_26 (by decide) ?_
      obtain ⟨b2, h⟩ := zb_ok h
      obtain rfl := Option.some.inj h
      exact j_pretZ C hr d_Writer_runEnds_30 b2
    · replace h := (if_neg c8).symm.trans h
      refine j_aload_n C 0 d_Writer_runEnds_14 rfl ?_
      refine j_iload_n C 1 d_Writer_runEnds_15 rfl ?_
      refine j_iconst C (v := 1) d_Writer_runEnds_16 (by decide) ?_
      refine j_iadd C d_Writer_runEnds_17 ?_
      obtain ⟨b3, h⟩ := gd_ok h
      refine j_iald C (0) (t0 := 0) rfl rfl b3 d_Writer_runEnds_18 ?_
      refine j_aload_n C 0 d_Writer_runEnds_19 rfl ?_
      refine j_iload_n C 1 d_Writer_runEnds_20 rfl ?_
      obtain ⟨b4, h⟩ := gd_ok h
      refine j_iald C (0) (t0 := 0) rfl rfl b4 d_Writer_runEnds_21 ?_
      refine j_icmp_eq C 29 d_Writer_runEnds_22 (by decide) (fun c7 => ?_) (fun c7 => ?_)
      · replace h := (if_pos c7).symm.trans h
        refine j_iconst C (v := 0) d_Writer_runEnds_29 (by decide) ?_
        obtain ⟨b5, h⟩ := zb_ok h
        obtain rfl := Option.some.inj h
        exact j_pretZ C hr d_Writer_runEnds_30 b5
      · replace h := (if_neg c7).symm.trans h
        refine j_iconst C (v := 1) d_Writer_runEnds_25 (by decide) ?_
        refine j_goto C 30 d_Writer_runEnds_26 (by decide) ?_
        obtain ⟨b6, h⟩ := zb_ok h
        obtain rfl := Option.some.inj h
        exact j_pretZ C hr d_Writer_runEnds_30 b6
def Writer_countRuns_l8 (n : Nat) (v : (Nat → Int32)) (v2 : Int32) : Nat → Int32 → Int32 → Int32 → Option (Nat × Int32)
  | 0, _, _, _ => none
  | k + 1, v3, v4, v5 =>
  (if v2 ≤ v5 then some (0, v3)
  else (Writer_runEnds n v v5 v2 (v4 + 1)).bind fun r1 =>
  (if r1 = 0 then Writer_countRuns_l8 n v v2 k v3 (v4 + 1) (v5 + 1)
  else Writer_countRuns_l8 n v v2 k (v3 + 1) 0 (v5 + 1)))
def Writer_countRuns (fu : Nat) (n : Nat) (v : (Nat → Int32)) (p2 : Int32) (p3 : Int32) : Option Int32 :=
  (Writer_countRuns_l8 n v p3 fu 0 0 p2).bind fun r4 =>
  some r4.2
set_option maxRecDepth 100000 in
set_option maxHeartbeats 4000000 in
theorem t_Writer_countRuns_l8 {p : Program} {l : Launch} {e : Env} {s : State} {m : MethodId} {args : Array Value} {below : List Frame} {meth : Method} {c : Code} {D : va_G} {cI cR cZ : ClassId} {Q : State → Prop} (C : Cx p s m args meth c D (tyG cI cR cZ) b_Writer_countRuns 6 "MaskLayers$Writer") {g : Nat} {n : Nat} {v : (Nat → Int32)} {v2 : Int32} {out : Nat × Int32} : ∀ (k : Nat) (v3 : Int32) (v4 : Int32) (v5 : Int32), Writer_countRuns_l8 n v v2 k v3 v4 v5 = some out → (out.1 = 0 → J p l e rm_Writer_countRuns s m args below meth c D no (fun _ => True) 6 Q 0 0 ([(g, .inl (cI, n, .inl v))]) [(3, .int out.2)] [] 41) → J p l e rm_Writer_countRuns s m args below meth c D no (fun _ => True) 6 Q 0 0 ([(g, .inl (cI, n, .inl v))]) [(0, .ref g), (2, .int v2), (3, .int v3), (4, .int v4), (5, .int v5)] [] 8 := by
  intro k
  induction k with
  | zero => intro v3 v4 v5 h; cases (show none = some out from h)
  | succ k ih =>
    intro v3 v4 v5 h x0
    rw [Writer_countRuns_l8] at h
    refine j_iload C 4 d_Writer_countRuns_8 rfl ?_
    refine j_iload_n C 1 d_Writer_countRuns_10 rfl ?_
    refine j_icmp_ge C 41 d_Writer_countRuns_11 (by decide) (fun c3 => ?_) (fun c3 => ?_)
    · replace h := (if_pos c3).symm.trans h
      obtain rfl := Option.some.inj h
      refine j_sub [2] rfl ?_
      exact x0 rfl
    · replace h := (if_neg c3).symm.trans h
      refine j_iinc C [(4, .int (v4 + 1)), (0, .ref g), (2, .int v2), (3, .int v3), (5, .int v5)] 3 (v4 + 1) d_Writer_countRuns_14 rfl rfl (by decide) rfl ?_
      refine j_aload_n C 1 d_Writer_countRuns_17 rfl ?_
      refine j_iload C 4 d_Writer_countRuns_18 rfl ?_
      refine j_iload_n C 2 d_Writer_countRuns_20 rfl ?_
      refine j_iload C 0 d_Writer_countRuns_21 rfl ?_
      obtain ⟨r1, hr1, h⟩ := bd_ok h
      refine j_PS C [.ref g, .int v5, .int v2, .int (v4 + 1)] (c_Writer_runEnds l D cI cR cZ g n v v5 v2 (v4 + 1) hr1) (cw_Writer_96 C ⟨Nat.le_of_ble_eq_true rfl, Nat.le_of_ble_eq_true rfl⟩) [0] rfl rfl rfl (Nat.le_of_ble_eq_true rfl) d_Writer_countRuns_23 (by decide) ?_
      refine j_if_eq C 35 d_Writer_countRuns_26 (by decide) (fun c2 => ?_) (fun c2 => ?_)
      · replace h := (if_pos c2).symm.trans h
        refine j_iinc C [(5, .int (v5 + 1)), (4, .int (v4 + 1)), (0, .ref g), (2, .int v2), (3, .int v3)] 4 (v5 + 1) d_Writer_countRuns_35 rfl rfl (by decide) rfl ?_
        refine j_goto C 8 d_Writer_countRuns_38 (by decide) ?_
        refine j_sub [2, 3, 4, 1, 0] rfl ?_
        exact ih v3 (v4 + 1) (v5 + 1) h x0
      · replace h := (if_neg c2).symm.trans h
        refine j_iinc C [(3, .int (v3 + 1)), (4, .int (v4 + 1)), (0, .ref g), (2, .int v2), (5, .int v5)] 3 (v3 + 1) d_Writer_countRuns_29 rfl rfl (by decide) rfl ?_
        refine j_iconst C (v := 0) d_Writer_countRuns_32 (by decide) ?_
        refine j_istore C [(4, .int 0), (3, .int (v3 + 1)), (0, .ref g), (2, .int v2), (5, .int v5)] d_Writer_countRuns_33 (by decide) rfl ?_
        refine j_iinc C [(5, .int (v5 + 1)), (4, .int 0), (3, .int (v3 + 1)), (0, .ref g), (2, .int v2)] 4 (v5 + 1) d_Writer_countRuns_35 rfl rfl (by decide) rfl ?_
        refine j_goto C 8 d_Writer_countRuns_38 (by decide) ?_
        refine j_sub [3, 4, 2, 1, 0] rfl ?_
        exact ih (v3 + 1) 0 (v5 + 1) h x0
set_option maxRecDepth 100000 in
set_option maxHeartbeats 4000000 in
theorem c_Writer_countRuns (l : Launch) (D : va_G) (cI cR cZ : ClassId) (fu : Nat) (g : Nat) (n : Nat) (v : (Nat → Int32)) (p2 : Int32) (p3 : Int32) {res : Int32} (h : Writer_countRuns fu n v p2 p3 = some res) : Met l y_Writer_countRuns (Cond.code y_Writer_countRuns b_Writer_countRuns 6 (some .int) :: BIG) rm_Writer_countRuns (PcP [.ref g, .int p2, .int p3] D (tyG cI cR cZ) ([(g, .inl (cI, n, .inl v))])) (QcP res) 0 0 no := by
  refine met_P (by decide) (Nat.le_of_ble_eq_true rfl) (fun p e s m args below meth c C hr => ?_)
  have C : Cx p s m args meth c D (tyG cI cR cZ) b_Writer_countRuns 6 "MaskLayers$Writer" := C
  have hr : meth.sig.returnType = some .int := hr
  show J p l e rm_Writer_countRuns s m args below meth c D no (fun _ => True) 6 (MQ below (QcP res) args s 0 0 no) 0 0 ([(g, .inl (cI, n, .inl v))]) [(0, .ref g), (1, .int p2), (2, .int p3)] [] 0
  unfold Writer_countRuns at h
  refine j_iconst C (v := 0) d_Writer_countRuns_0 (by decide) ?_
  refine j_istore_n C [(3, .int 0), (0, .ref g), (1, .int p2), (2, .int p3)] d_Writer_countRuns_1 (by decide) rfl ?_
  refine j_iconst C (v := 0) d_Writer_countRuns_2 (by decide) ?_
  refine j_istore C [(4, .int 0), (3, .int 0), (0, .ref g), (1, .int p2), (2, .int p3)] d_Writer_countRuns_3 (by decide) rfl ?_
  refine j_iload_n C 3 d_Writer_countRuns_5 rfl ?_
  refine j_istore C [(5, .int p2), (4, .int 0), (3, .int 0), (0, .ref g), (1, .int p2), (2, .int p3)] d_Writer_countRuns_6 (by decide) rfl ?_
  obtain ⟨r4, hr4, h⟩ := bd_ok h
  refine j_sub [3, 5, 2, 1, 0] rfl ?_
  refine t_Writer_countRuns_l8 C fu 0 0 p2 hr4 (fun e5 => ?_)
  · refine j_iload_n C 0 d_Writer_countRuns_41 rfl ?_
    obtain rfl := Option.some.inj h
    exact j_pret C hr d_Writer_countRuns_42
end
section
def Reader_mayEnd (n : Nat) (B : ByS) (pl : Int32) (rf : Int32) (hd : (Nat → Int32)) (L : LyS) (p1 : Int32) : Option Int32 :=
  (Layers_has n L p1 2).bind fun r1 =>
  (if r1 = 0 then (Layers_has n L p1 0).bind fun r3 =>
  (if r3 = 0 then zb 0 (some 0)
  else (Layers_has n L p1 1).bind fun r5 =>
  (if r5 = 0 then zb 1 (some 1)
  else zb 0 (some 0)))
  else zb 1 (some 1))
set_option maxRecDepth 100000 in
set_option maxHeartbeats 4000000 in
theorem c_Reader_mayEnd (l : Launch) (D : va_G) (cI cR cZ : ClassId) (o0 : Nat) (hh : Nat) (b : Nat) (q : Nat) (a : (Nat → Nat)) (n : Nat) (B : ByS) (pl : Int32) (rf : Int32) (hd : (Nat → Int32)) (L : LyS) (p1 : Int32) {res : Int32} (h : Reader_mayEnd n B pl rf hd L p1 = some res) : Met l y_Reader_mayEnd (Cond.code y_Reader_mayEnd b_Reader_mayEnd 2 (some .boolean) :: BIG) rm_Reader_mayEnd (PcP [.ref o0, .int p1] D (tyG cI cR cZ) (wRd cI cR o0 hh b q a n B pl rf hd L)) (QcP res) 0 0 no := by
  refine met_P (by decide) (Nat.le_of_ble_eq_true rfl) (fun p e s m args below meth c C hr => ?_)
  have C : Cx p s m args meth c D (tyG cI cR cZ) b_Reader_mayEnd 2 "MaskLayers$Reader" := C
  have hr : meth.sig.returnType = some .boolean := hr
  show J p l e rm_Reader_mayEnd s m args below meth c D no (fun _ => True) 2 (MQ below (QcP res) args s 0 0 no) 0 0 (wRd cI cR o0 hh b q a n B pl rf hd L) [(0, .ref o0), (1, .int p1)] [] 0
  unfold Reader_mayEnd at h
  refine j_aload_n C 0 d_Reader_mayEnd_0 rfl ?_
  refine gf_Reader_15 C 0 (v := .ref (a 0)) rfl rfl d_Reader_mayEnd_1 ?_
  refine j_iload_n C 1 d_Reader_mayEnd_4 rfl ?_
  refine j_iconst C (v := 2) d_Reader_mayEnd_5 (by decide) ?_
  obtain ⟨r1, hr1, h⟩ := bd_ok h
  refine j_PV C [.int p1, .int 2] 4 rfl rfl (c_Layers_has l D cI cR cZ a n L p1 2 hr1) (cw_Reader_83 C ⟨Nat.le_of_ble_eq_true rfl, Nat.le_of_ble_eq_true rfl⟩) [4, 5, 6, 7, 8, 9, 10, 11, 12] rfl rfl rfl (Nat.le_of_ble_eq_true rfl) d_Reader_mayEnd_6 (by decide) ?_
  refine j_if_ne C 36 d_Reader_mayEnd_9 (by decide) (fun c10 => ?_) (fun c10 => ?_)
  · replace h := (if_neg c10).symm.trans h
    refine j_iconst C (v := 1) d_Reader_mayEnd_36 (by decide) ?_
    refine j_goto C 41 d_Reader_mayEnd_37 (by decide) ?_
    obtain ⟨b2, h⟩ := zb_ok h
    obtain rfl := Option.some.inj h
    exact j_pretZ C hr d_Reader_mayEnd_41 b2
  · replace h := (if_pos c10).symm.trans h
    refine j_aload_n C 0 d_Reader_mayEnd_12 rfl ?_
    refine gf_Reader_15 C 0 (v := .ref (a 0)) rfl rfl d_Reader_mayEnd_13 ?_
    refine j_iload_n C 1 d_Reader_mayEnd_16 rfl ?_
    refine j_iconst C (v := 0) d_Reader_mayEnd_17 (by decide) ?_
    obtain ⟨r3, hr3, h⟩ := bd_ok h
    refine j_PV C [.int p1, .int 0] 4 rfl rfl (c_Layers_has l D cI cR cZ a n L p1 0 hr3) (cw_Reader_83 C ⟨Nat.le_of_ble_eq_true rfl, Nat.le_of_ble_eq_true rfl⟩) [4, 5, 6, 7, 8, 9, 10, 11, 12] rfl rfl rfl (Nat.le_of_ble_eq_true rfl) d_Reader_mayEnd_18 (by decide) ?_
    refine j_if_eq C 40 d_Reader_mayEnd_21 (by decide) (fun c9 => ?_) (fun c9 => ?_)
    · replace h := (if_pos c9).symm.trans h
      refine j_iconst C (v := 0) d_Reader_mayEnd_40 (by decide) ?_
      obtain ⟨b4, h⟩ := zb_ok h
      obtain rfl := Option.some.inj h
      exact j_pretZ C hr d_Reader_mayEnd_41 b4
    · replace h := (if_neg c9).symm.trans h
      refine j_aload_n C 0 d_Reader_mayEnd_24 rfl ?_
      refine gf_Reader_15 C 0 (v := .ref (a 0)) rfl rfl d_Reader_mayEnd_25 ?_
      refine j_iload_n C 1 d_Reader_mayEnd_28 rfl ?_
      refine j_iconst C (v := 1) d_Reader_mayEnd_29 (by decide) ?_
      obtain ⟨r5, hr5, h⟩ := bd_ok h
      refine j_PV C [.int p1, .int 1] 4 rfl rfl (c_Layers_has l D cI cR cZ a n L p1 1 hr5) (cw_Reader_83 C ⟨Nat.le_of_ble_eq_true rfl, Nat.le_of_ble_eq_true rfl⟩) [4, 5, 6, 7, 8, 9, 10, 11, 12] rfl rfl rfl (Nat.le_of_ble_eq_true rfl) d_Reader_mayEnd_30 (by decide) ?_
      refine j_if_ne C 40 d_Reader_mayEnd_33 (by decide) (fun c8 => ?_) (fun c8 => ?_)
      · replace h := (if_neg c8).symm.trans h
        refine j_iconst C (v := 0) d_Reader_mayEnd_40 (by decide) ?_
        obtain ⟨b6, h⟩ := zb_ok h
        obtain rfl := Option.some.inj h
        exact j_pretZ C hr d_Reader_mayEnd_41 b6
      · replace h := (if_pos c8).symm.trans h
        refine j_iconst C (v := 1) d_Reader_mayEnd_36 (by decide) ?_
        refine j_goto C 41 d_Reader_mayEnd_37 (by decide) ?_
        obtain ⟨b7, h⟩ := zb_ok h
        obtain rfl := Option.some.inj h
        exact j_pretZ C hr d_Reader_mayEnd_41 b7
def Reader_mayFollow (n : Nat) (B : ByS) (pl : Int32) (rf : Int32) (hd : (Nat → Int32)) (L : LyS) (p1 : Int32) (p2 : Int32) : Option Int32 :=
  (if p2 = 2 then (Layers_has n L p1 1).bind fun r14 =>
  zb r14 (some r14)
  else (if p2 = 3 then (Layers_has n L p1 0).bind fun r6 =>
  (if r6 = 0 then (Layers_has n L p1 2).bind fun r8 =>
  (if r8 = 0 then zb 0 (some 0)
  else zb 1 (some 1))
  else zb 1 (some 1))
  else (if p2 = 0 then zb 1 (some 1)
  else (if p2 = 1 then zb 1 (some 1)
  else zb 0 (some 0)))))
set_option maxRecDepth 100000 in
set_option maxHeartbeats 4000000 in
theorem c_Reader_mayFollow (l : Launch) (D : va_G) (cI cR cZ : ClassId) (o0 : Nat) (hh : Nat) (b : Nat) (q : Nat) (a : (Nat → Nat)) (n : Nat) (B : ByS) (pl : Int32) (rf : Int32) (hd : (Nat → Int32)) (L : LyS) (p1 : Int32) (p2 : Int32) {res : Int32} (h : Reader_mayFollow n B pl rf hd L p1 p2 = some res) : Met l y_Reader_mayFollow (Cond.code y_Reader_mayFollow b_Reader_mayFollow 3 (some .boolean) :: BIG) rm_Reader_mayFollow (PcP [.ref o0, .int p1, .int p2] D (tyG cI cR cZ) (wRd cI cR o0 hh b q a n B pl rf hd L)) (QcP res) 0 0 no := by
  refine met_P (by decide) (Nat.le_of_ble_eq_true rfl) (fun p e s m args below meth c C hr => ?_)
  have C : Cx p s m args meth c D (tyG cI cR cZ) b_Reader_mayFollow 3 "MaskLayers$Reader" := C
  have hr : meth.sig.returnType = some .boolean := hr
  show J p l e rm_Reader_mayFollow s m args below meth c D no (fun _ => True) 3 (MQ below (QcP res) args s 0 0 no) 0 0 (wRd cI cR o0 hh b q a n B pl rf hd L) [(0, .ref o0), (1, .int p1), (2, .int p2)] [] 0
  unfold Reader_mayFollow at h
  refine j_iload_n C 2 d_Reader_mayFollow_0 rfl ?_
  refine j_iconst C (v := 2) d_Reader_mayFollow_1 (by decide) ?_
  refine j_icmp_ne C 15 d_Reader_mayFollow_2 (by decide) (fun c16 => ?_) (fun c16 => ?_)
  · replace h := (if_neg c16).symm.trans h
    refine j_iload_n C 2 d_Reader_mayFollow_15 rfl ?_
    refine j_iconst C (v := 3) d_Reader_mayFollow_16 (by decide) ?_
    refine j_icmp_ne C 50 d_Reader_mayFollow_17 (by decide) (fun c13 => ?_) (fun c13 => ?_)
    · replace h := (if_neg c13).symm.trans h
      refine j_iload_n C 2 d_Reader_mayFollow_50 rfl ?_
      refine j_if_eq C 59 d_Reader_mayFollow_51 (by decide) (fun c5 => ?_) (fun c5 => ?_)
      · replace h := (if_pos c5).symm.trans h
        refine j_iconst C (v := 1) d_Reader_mayFollow_59 (by decide) ?_
        refine j_goto C 64 d_Reader_mayFollow_60 (by decide) ?_
        obtain ⟨b1, h⟩ := zb_ok h
        obtain rfl := Option.some.inj h
        exact j_pretZ C hr d_Reader_mayFollow_64 b1
      · replace h := (if_neg c5).symm.trans h
        refine j_iload_n C 2 d_Reader_mayFollow_54 rfl ?_
        refine j_iconst C (v := 1) d_Reader_mayFollow_55 (by decide) ?_
        refine j_icmp_ne C 63 d_Reader_mayFollow_56 (by decide) (fun c4 => ?_) (fun c4 => ?_)
        · replace h := (if_neg c4).symm.trans h
          refine j_iconst C (v := 0) d_Reader_mayFollow_63 (by decide) ?_
          obtain ⟨b2, h⟩ := zb_ok h
          obtain rfl := Option.some.inj h
          exact j_pretZ C hr d_Reader_mayFollow_64 b2
        · replace h := (if_pos c4).symm.trans h
          refine j_iconst C (v := 1) d_Reader_mayFollow_59 (by decide) ?_
          refine j_goto C 64 d_Reader_mayFollow_60 (by decide) ?_
          obtain ⟨b3, h⟩ := zb_ok h
          obtain rfl := Option.some.inj h
          exact j_pretZ C hr d_Reader_mayFollow_64 b3
    · replace h := (if_pos c13).symm.trans h
      refine j_aload_n C 0 d_Reader_mayFollow_20 rfl ?_
      refine gf_Reader_15 C 0 (v := .ref (a 0)) rfl rfl d_Reader_mayFollow_21 ?_
      refine j_iload_n C 1 d_Reader_mayFollow_24 rfl ?_
      refine j_iconst C (v := 0) d_Reader_mayFollow_25 (by decide) ?_
      obtain ⟨r6, hr6, h⟩ := bd_ok h
      refine j_PV C [.int p1, .int 0] 4 rfl rfl (c_Layers_has l D cI cR cZ a n L p1 0 hr6) (cw_Reader_83 C ⟨Nat.le_of_ble_eq_true rfl, Nat.le_of_ble_eq_true rfl⟩) [4, 5, 6, 7, 8, 9, 10, 11, 12] rfl rfl rfl (Nat.le_of_ble_eq_true rfl) d_Reader_mayFollow_26 (by decide) ?_
      refine j_if_ne C 44 d_Reader_mayFollow_29 (by decide) (fun c12 => ?_) (fun c12 => ?_)
      · replace h := (if_neg c12).symm.trans h
        refine j_iconst C (v := 1) d_Reader_mayFollow_44 (by decide) ?_
        refine j_goto C 49 d_Reader_mayFollow_45 (by decide) ?_
        obtain ⟨b7, h⟩ := zb_ok h
        obtain rfl := Option.some.inj h
        exact j_pretZ C hr d_Reader_mayFollow_49 b7
      · replace h := (if_pos c12).symm.trans h
        refine j_aload_n C 0 d_Reader_mayFollow_32 rfl ?_
        refine gf_Reader_15 C 0 (v := .ref (a 0)) rfl rfl d_Reader_mayFollow_33 ?_
        refine j_iload_n C 1 d_Reader_mayFollow_36 rfl ?_
        refine j_iconst C (v := 2) d_Reader_mayFollow_37 (by decide) ?_
        obtain ⟨r8, hr8, h⟩ := bd_ok h
        refine j_PV C [.int p1, .int 2] 4 rfl rfl (c_Layers_has l D cI cR cZ a n L p1 2 hr8) (cw_Reader_83 C ⟨Nat.le_of_ble_eq_true rfl, Nat.le_of_ble_eq_true rfl⟩) [4, 5, 6, 7, 8, 9, 10, 11, 12] rfl rfl rfl (Nat.le_of_ble_eq_true rfl) d_Reader_mayFollow_38 (by decide) ?_
        refine j_if_eq C 48 d_Reader_mayFollow_41 (by decide) (fun c11 => ?_) (fun c11 => ?_)
        · replace h := (if_pos c11).symm.trans h
          refine j_iconst C (v := 0) d_Reader_mayFollow_48 (by decide) ?_
          obtain ⟨b9, h⟩ := zb_ok h
          obtain rfl := Option.some.inj h
          exact j_pretZ C hr d_Reader_mayFollow_49 b9
        · replace h := (if_neg c11).symm.trans h
          refine j_iconst C (v := 1) d_Reader_mayFollow_44 (by decide) ?_
          refine j_goto C 49 d_Reader_mayFollow_45 (by decide) ?_
          obtain ⟨b10, h⟩ := zb_ok h
          obtain rfl := Option.some.inj h
          exact j_pretZ C hr d_Reader_mayFollow_49 b10
  · replace h := (if_pos c16).symm.trans h
    refine j_aload_n C 0 d_Reader_mayFollow_5 rfl ?_
    refine gf_Reader_15 C 0 (v := .ref (a 0)) rfl rfl d_Reader_mayFollow_6 ?_
    refine j_iload_n C 1 d_Reader_mayFollow_9 rfl ?_
    refine j_iconst C (v := 1) d_Reader_mayFollow_10 (by decide) ?_
    obtain ⟨r14, hr14, h⟩ := bd_ok h
    refine j_PV C [.int p1, .int 1] 4 rfl rfl (c_Layers_has l D cI cR cZ a n L p1 1 hr14) (cw_Reader_83 C ⟨Nat.le_of_ble_eq_true rfl, Nat.le_of_ble_eq_true rfl⟩) [4, 5, 6, 7, 8, 9, 10, 11, 12] rfl rfl rfl (Nat.le_of_ble_eq_true rfl) d_Reader_mayFollow_11 (by decide) ?_
    obtain ⟨b15, h⟩ := zb_ok h
    obtain rfl := Option.some.inj h
    exact j_pretZ C hr d_Reader_mayFollow_14 b15
def Reader_refuse (n : Nat) (B : ByS) (pl : Int32) (rf : Int32) (hd : (Nat → Int32)) (L : LyS) (p1 : Int32) : Option (Int32 × Int32) :=
  zb 0 (some (0, p1))
set_option maxRecDepth 100000 in
set_option maxHeartbeats 4000000 in
theorem c_Reader_refuse (l : Launch) (D : va_G) (cI cR cZ : ClassId) (o0 : Nat) (hh : Nat) (b : Nat) (q : Nat) (a : (Nat → Nat)) (n : Nat) (B : ByS) (pl : Int32) (rf : Int32) (hd : (Nat → Int32)) (L : LyS) (p1 : Int32) {res : (Int32 × Int32)} (h : Reader_refuse n B pl rf hd L p1 = some res) (sz : Nat) : Met l y_Reader_refuse (Cond.code y_Reader_refuse b_Reader_refuse 2 (some .boolean) :: BIG) rm_Reader_refuse (PcI [.ref o0, .int p1] D (tyG cI cR cZ) (wRd cI cR o0 hh b q a n B pl rf hd L) sz) (QcI D res.1 (fun _ : Nat => wRd cI cR o0 hh b q a n B pl res.2 hd L) (va_A (wRd cI cR o0 hh b q a n B pl rf hd L) sz)) 0 0 (va_A (wRd cI cR o0 hh b q a n B pl rf hd L) sz) := by
  refine met_I (by decide) (Nat.le_of_ble_eq_true rfl) (fun p e s m args below meth c A hA C hr => ?_)
  have C : Cx p s m args meth c D (tyG cI cR cZ) b_Reader_refuse 2 "MaskLayers$Reader" := C
  have hr : meth.sig.returnType = some .boolean := hr
  show J p l e rm_Reader_refuse s m args below meth c D A (va_D A) 2 (MQ below (QcI D res.1 (fun _ : Nat => wRd cI cR o0 hh b q a n B pl res.2 hd L) A) args s 0 0 A) 0 0 (wRd cI cR o0 hh b q a n B pl rf hd L) [(0, .ref o0), (1, .int p1)] [] 0
  unfold Reader_refuse at h
  refine j_aload_n C 0 d_Reader_refuse_0 rfl ?_
  refine j_iload_n C 1 d_Reader_refuse_1 rfl ?_
  refine pf_Reader_56 C 0 (wRd cI cR o0 hh b q a n B pl p1 hd L) rfl rfl rfl d_Reader_refuse_2 ?_
  refine j_iconst C (v := 0) d_Reader_refuse_5 (by decide) ?_
  obtain ⟨b1, h⟩ := zb_ok h
  obtain rfl := Option.some.inj h
  exact j_iretZ C hr d_Reader_refuse_6 b1 0 rfl
def Reader_take_b30 (n : Nat) (B : ByS) (pl : Int32) (rf : Int32) (hd : (Nat → Int32)) (L : LyS) (v1 : Int32) (v2 : Int32) (s0 : Int32) : Option (Int32 × Int32 × Int32) :=
  (if s0 < v1 then some ((-1), pl, pl)
  else (if s0 ≤ v2 then some (s0, pl + 1, rf)
  else some ((-1), pl, pl)))
def Reader_take (n : Nat) (B : ByS) (pl : Int32) (rf : Int32) (hd : (Nat → Int32)) (L : LyS) (p1 : Int32) (p2 : Int32) : Option (Int32 × Int32 × Int32) :=
  (if B.1 ≤ pl then Reader_take_b30 n B pl rf hd L p1 p2 ((-1))
  else gd pl B.2.1 (Reader_take_b30 n B pl rf hd L p1 p2 (B.2.2 pl.toNatClampNeg)))
set_option maxRecDepth 100000 in
set_option maxHeartbeats 4000000 in
theorem t_Reader_take_b30 {p : Program} {l : Launch} {e : Env} {s : State} {m : MethodId} {args : Array Value} {below : List Frame} {meth : Method} {c : Code} {D : va_G} {cI cR cZ : ClassId} {A : Nat → Prop} (C : Cx p s m args meth c D (tyG cI cR cZ) b_Reader_take 4 "MaskLayers$Reader") (hr : meth.sig.returnType = some .int) (hA : ∀ q : Nat, s.heap.size ≤ q → A q) {o0 : Nat} {hh : Nat} {b : Nat} {q : Nat} {a : (Nat → Nat)} {n : Nat} {B : ByS} {pl : Int32} {rf : Int32} {hd : (Nat → Int32)} {L : LyS} {v1 : Int32} {v2 : Int32} {s0 : Int32} {res : (Int32 × Int32 × Int32)} (h : Reader_take_b30 n B pl rf hd L v1 v2 s0 = some res) : J p l e rm_Reader_take s m args below meth c D A (va_D A) 4 (MQ below (QcI D res.1 (fun _ : Nat => wRd cI cR o0 hh b q a n B res.2.1 res.2.2 hd L) A) args s 0 0 A) 0 0 (wRd cI cR o0 hh b q a n B pl rf hd L) [(0, .ref o0), (1, .int v1), (2, .int v2)] [.int s0] 30 := by
  unfold Reader_take_b30 at h
  refine j_istore_n C [(3, .int s0), (0, .ref o0), (1, .int v1), (2, .int v2)] d_Reader_take_30 (by decide) rfl ?_
  refine j_iload_n C 0 d_Reader_take_31 rfl ?_
  refine j_iload_n C 2 d_Reader_take_32 rfl ?_
  refine j_icmp_lt C 41 d_Reader_take_33 (by decide) (fun c2 => ?_) (fun c2 => ?_)
  · replace h := (if_pos c2).symm.trans h
    refine j_aload_n C 1 d_Reader_take_41 rfl ?_
    refine j_aload_n C 1 d_Reader_take_42 rfl ?_
    refine gf_Reader_26 C 0 (v := .int pl) rfl rfl d_Reader_take_43 ?_
    refine pf_Reader_56 C 0 (wRd cI cR o0 hh b q a n B pl pl hd L) rfl rfl rfl d_Reader_take_46 ?_
    refine j_iconst C (v := (-1)) d_Reader_take_49 (by decide) ?_
    obtain rfl := Option.some.inj h
    exact j_iret C hr d_Reader_take_50 0 rfl
  · replace h := (if_neg c2).symm.trans h
    refine j_iload_n C 0 d_Reader_take_36 rfl ?_
    refine j_iload_n C 3 d_Reader_take_37 rfl ?_
    refine j_icmp_le C 51 d_Reader_take_38 (by decide) (fun c1 => ?_) (fun c1 => ?_)
    · replace h := (if_pos c1).symm.trans h
      refine j_aload_n C 1 d_Reader_take_51 rfl ?_
      refine j_dup C d_Reader_take_52 rfl ?_
      refine gf_Reader_26 C 0 (v := .int pl) rfl rfl d_Reader_take_53 ?_
      refine j_iconst C (v := 1) d_Reader_take_56 (by decide) ?_
      refine j_iadd C d_Reader_take_57 ?_
      refine pf_Reader_26 C 0 (wRd cI cR o0 hh b q a n B (pl + 1) rf hd L) rfl rfl rfl d_Reader_take_58 ?_
      refine j_iload_n C 0 d_Reader_take_61 rfl ?_
      obtain rfl := Option.some.inj h
      exact j_iret C hr d_Reader_take_62 0 rfl
    · replace h := (if_neg c1).symm.trans h
      refine j_aload_n C 1 d_Reader_take_41 rfl ?_
      refine j_aload_n C 1 d_Reader_take_42 rfl ?_
      refine gf_Reader_26 C 0 (v := .int pl) rfl rfl d_Reader_take_43 ?_
      refine pf_Reader_56 C 0 (wRd cI cR o0 hh b q a n B pl pl hd L) rfl rfl rfl d_Reader_take_46 ?_
      refine j_iconst C (v := (-1)) d_Reader_take_49 (by decide) ?_
      obtain rfl := Option.some.inj h
      exact j_iret C hr d_Reader_take_50 0 rfl
set_option maxRecDepth 100000 in
set_option maxHeartbeats 4000000 in
theorem c_Reader_take (l : Launch) (D : va_G) (cI cR cZ : ClassId) (o0 : Nat) (hh : Nat) (b : Nat) (q : Nat) (a : (Nat → Nat)) (n : Nat) (B : ByS) (pl : Int32) (rf : Int32) (hd : (Nat → Int32)) (L : LyS) (p1 : Int32) (p2 : Int32) {res : (Int32 × Int32 × Int32)} (h : Reader_take n B pl rf hd L p1 p2 = some res) (sz : Nat) : Met l y_Reader_take (Cond.code y_Reader_take b_Reader_take 4 (some .int) :: BIG) rm_Reader_take (PcI [.ref o0, .int p1, .int p2] D (tyG cI cR cZ) (wRd cI cR o0 hh b q a n B pl rf hd L) sz) (QcI D res.1 (fun _ : Nat => wRd cI cR o0 hh b q a n B res.2.1 res.2.2 hd L) (va_A (wRd cI cR o0 hh b q a n B pl rf hd L) sz)) 0 0 (va_A (wRd cI cR o0 hh b q a n B pl rf hd L) sz) := by
  refine met_I (by decide) (Nat.le_of_ble_eq_true rfl) (fun p e s m args below meth c A hA C hr => ?_)
  have C : Cx p s m args meth c D (tyG cI cR cZ) b_Reader_take 4 "MaskLayers$Reader" := C
  have hr : meth.sig.returnType = some .int := hr
  show J p l e rm_Reader_take s m args below meth c D A (va_D A) 4 (MQ below (QcI D res.1 (fun _ : Nat => wRd cI cR o0 hh b q a n B res.2.1 res.2.2 hd L) A) args s 0 0 A) 0 0 (wRd cI cR o0 hh b q a n B pl rf hd L) [(0, .ref o0), (1, .int p1), (2, .int p2)] [] 0
  unfold Reader_take at h
  refine j_aload_n C 0 d_Reader_take_0 rfl ?_
  refine gf_Reader_26 C 0 (v := .int pl) rfl rfl d_Reader_take_1 ?_
  refine j_aload_n C 0 d_Reader_take_4 rfl ?_
  refine gf_Reader_9 C 0 (v := .ref b) rfl rfl d_Reader_take_5 ?_
  refine gf_Reader_47 C 2 (v := .int B.1) rfl rfl d_Reader_take_8 ?_
  refine j_icmp_ge C 29 d_Reader_take_11 (by decide) (fun c4 => ?_) (fun c4 => ?_)
  · replace h := (if_pos c4).symm.trans h
    refine j_iconst C (v := (-1)) d_Reader_take_29 (by decide) ?_
    refine j_sub [0, 1, 2] rfl ?_
    exact t_Reader_take_b30 C hr hA h
  · replace h := (if_neg c4).symm.trans h
    refine j_aload_n C 0 d_Reader_take_14 rfl ?_
    refine gf_Reader_9 C 0 (v := .ref b) rfl rfl d_Reader_take_15 ?_
    refine gf_Reader_59 C 2 (v := .ref q) rfl rfl d_Reader_take_18 ?_
    refine j_aload_n C 0 d_Reader_take_21 rfl ?_
    refine gf_Reader_26 C 0 (v := .int pl) rfl rfl d_Reader_take_22 ?_
    obtain ⟨b3, h⟩ := gd_ok h
    refine j_iald C (3) (t0 := 0) rfl rfl b3 d_Reader_take_25 ?_
    refine j_goto C 30 d_Reader_take_26 (by decide) ?_
    refine j_sub [0, 1, 2] rfl ?_
    exact t_Reader_take_b30 C hr hA h
def Reader_takeValue_b56 (n : Nat) (B : ByS) (pl : Int32) (rf : Int32) (hd : (Nat → Int32)) (L : LyS) (v2 : Int32) (v3 : Int32) (s0 : Int32) : Option (Int32 × Int32 × Int32) :=
  (if s0 = ((-1)) then some ((-1), pl, rf)
  else (ML_colourOf v2 v3 s0).bind fun r4 =>
  some (r4, pl, rf))
def Reader_takeValue_b38 (n : Nat) (B : ByS) (pl : Int32) (rf : Int32) (hd : (Nat → Int32)) (L : LyS) (v2 : Int32) (s0 : Int32) : Option (Int32 × Int32 × Int32) :=
  (if s0 = ((-1)) then Reader_takeValue_b56 n B pl rf hd L v2 s0 ((-1))
  else (Reader_take n B pl rf hd L 0 255).bind fun r3 =>
  Reader_takeValue_b56 n B r3.2.1 r3.2.2 hd L v2 s0 r3.1)
def Reader_takeValue (n : Nat) (B : ByS) (pl : Int32) (rf : Int32) (hd : (Nat → Int32)) (L : LyS) (p1 : Int32) : Option (Int32 × Int32 × Int32) :=
  (if p1 = 1 then (Reader_take n B pl rf hd L 0 1).bind fun r8 =>
  some (r8.1, r8.2.1, r8.2.2)
  else (Reader_take n B pl rf hd L 0 255).bind fun r1 =>
  (if r1.1 = ((-1)) then Reader_takeValue_b38 n B r1.2.1 r1.2.2 hd L r1.1 ((-1))
  else (Reader_take n B r1.2.1 r1.2.2 hd L 0 255).bind fun r2 =>
  Reader_takeValue_b38 n B r2.2.1 r2.2.2 hd L r1.1 r2.1))
set_option maxRecDepth 100000 in
set_option maxHeartbeats 4000000 in
theorem t_Reader_takeValue_b56 {p : Program} {l : Launch} {e : Env} {s : State} {m : MethodId} {args : Array Value} {below : List Frame} {meth : Method} {c : Code} {D : va_G} {cI cR cZ : ClassId} {A : Nat → Prop} (C : Cx p s m args meth c D (tyG cI cR cZ) b_Reader_takeValue 5 "MaskLayers$Reader") (hr : meth.sig.returnType = some .int) (hA : ∀ q : Nat, s.heap.size ≤ q → A q) {o0 : Nat} {hh : Nat} {b : Nat} {q : Nat} {a : (Nat → Nat)} {n : Nat} {B : ByS} {pl : Int32} {rf : Int32} {hd : (Nat → Int32)} {L : LyS} {v2 : Int32} {v3 : Int32} {s0 : Int32} {res : (Int32 × Int32 × Int32)} (h : Reader_takeValue_b56 n B pl rf hd L v2 v3 s0 = some res) : J p l e rm_Reader_takeValue s m args below meth c D A (va_D A) 5 (MQ below (QcI D res.1 (fun _ : Nat => wRd cI cR o0 hh b q a n B res.2.1 res.2.2 hd L) A) args s 0 0 A) 0 0 (wRd cI cR o0 hh b q a n B pl rf hd L) [(2, .int v2), (3, .int v3)] [.int s0] 56 := by
  unfold Reader_takeValue_b56 at h
  refine j_istore C [(4, .int s0), (2, .int v2), (3, .int v3)] d_Reader_takeValue_56 (by decide) rfl ?_
  refine j_iload C 0 d_Reader_takeValue_58 rfl ?_
  refine j_iconst C (v := (-1)) d_Reader_takeValue_60 (by decide) ?_
  refine j_icmp_ne C 68 d_Reader_takeValue_61 (by decide) (fun c5 => ?_) (fun c5 => ?_)
  · replace h := (if_neg c5).symm.trans h
    refine j_iload_n C 1 d_Reader_takeValue_68 rfl ?_
    refine j_iload_n C 2 d_Reader_takeValue_69 rfl ?_
    refine j_iload C 0 d_Reader_takeValue_70 rfl ?_
    obtain ⟨r4, hr4, h⟩ := bd_ok h
    refine j_PSN C [.int v2, .int v3, .int s0] (c_ML_colourOf l D cI cR cZ v2 v3 s0 hr4) (cw_Reader_122 C ⟨Nat.le_of_ble_eq_true rfl, Nat.le_of_ble_eq_true rfl⟩) [] rfl rfl rfl (Nat.le_of_ble_eq_true rfl) d_Reader_takeValue_72 (by decide) ?_
    obtain rfl := Option.some.inj h
    exact j_iret C hr d_Reader_takeValue_75 0 rfl
  · replace h := (if_pos c5).symm.trans h
    refine j_iconst C (v := (-1)) d_Reader_takeValue_64 (by decide) ?_
    refine j_goto C 75 d_Reader_takeValue_65 (by decide) ?_
    obtain rfl := Option.some.inj h
    exact j_iret C hr d_Reader_takeValue_75 0 rfl
set_option maxRecDepth 100000 in
set_option maxHeartbeats 4000000 in
theorem t_Reader_takeValue_b38 {p : Program} {l : Launch} {e : Env} {s : State} {m : MethodId} {args : Array Value} {below : List Frame} {meth : Method} {c : Code} {D : va_G} {cI cR cZ : ClassId} {A : Nat → Prop} (C : Cx p s m args meth c D (tyG cI cR cZ) b_Reader_takeValue 5 "MaskLayers$Reader") (hr : meth.sig.returnType = some .int) (hA : ∀ q : Nat, s.heap.size ≤ q → A q) {o0 : Nat} {hh : Nat} {b : Nat} {q : Nat} {a : (Nat → Nat)} {n : Nat} {B : ByS} {pl : Int32} {rf : Int32} {hd : (Nat → Int32)} {L : LyS} {v2 : Int32} {s0 : Int32} {res : (Int32 × Int32 × Int32)} (h : Reader_takeValue_b38 n B pl rf hd L v2 s0 = some res) : J p l e rm_Reader_takeValue s m args below meth c D A (va_D A) 5 (MQ below (QcI D res.1 (fun _ : Nat => wRd cI cR o0 hh b q a n B res.2.1 res.2.2 hd L) A) args s 0 0 A) 0 0 (wRd cI cR o0 hh b q a n B pl rf hd L) [(0, .ref o0), (2, .int v2)] [.int s0] 38 := by
  unfold Reader_takeValue_b38 at h
  refine j_istore_n C [(3, .int s0), (0, .ref o0), (2, .int v2)] d_Reader_takeValue_38 (by decide) rfl ?_
  refine j_iload_n C 0 d_Reader_takeValue_39 rfl ?_
  refine j_iconst C (v := (-1)) d_Reader_takeValue_40 (by decide) ?_
  refine j_icmp_ne C 48 d_Reader_takeValue_41 (by decide) (fun c6 => ?_) (fun c6 => ?_)
  · replace h := (if_neg c6).symm.trans h
    refine j_aload_n C 1 d_Reader_takeValue_48 rfl ?_
    refine j_iconst C (v := 0) d_Reader_takeValue_49 (by decide) ?_
    refine j_sipush C (v := 255) d_Reader_takeValue_50 (by decide) ?_
    obtain ⟨r3, hr3, h⟩ := bd_ok h
    refine j_IV C [.int 0, .int 255] hA 0 rfl rfl (c_Reader_take l D cI cR cZ o0 hh b q a n B pl rf hd L 0 255 hr3) (cw_Reader_65 C ⟨Nat.le_of_ble_eq_true rfl, Nat.le_of_ble_eq_true rfl⟩) [0, 1, 2, 3, 4, 5, 6, 7, 8, 9, 10, 11, 12] [] rfl rfl (by decide) (by decide) (by decide) rfl rfl (Nat.le_of_ble_eq_true rfl) d_Reader_takeValue_53 (by decide) (fun _ => ?_)
    refine j_ws (ws' := wRd cI cR o0 hh b q a n B r3.2.1 r3.2.2 hd L) rfl ?_
    refine j_sub [2, 0] rfl ?_
    exact t_Reader_takeValue_b56 C hr hA h
  · replace h := (if_pos c6).symm.trans h
    refine j_iconst C (v := (-1)) d_Reader_takeValue_44 (by decide) ?_
    refine j_goto C 56 d_Reader_takeValue_45 (by decide) ?_
    refine j_sub [2, 0] rfl ?_
    exact t_Reader_takeValue_b56 C hr hA h
set_option maxRecDepth 100000 in
set_option maxHeartbeats 4000000 in
theorem c_Reader_takeValue (l : Launch) (D : va_G) (cI cR cZ : ClassId) (o0 : Nat) (hh : Nat) (b : Nat) (q : Nat) (a : (Nat → Nat)) (n : Nat) (B : ByS) (pl : Int32) (rf : Int32) (hd : (Nat → Int32)) (L : LyS) (p1 : Int32) {res : (Int32 × Int32 × Int32)} (h : Reader_takeValue n B pl rf hd L p1 = some res) (sz : Nat) : Met l y_Reader_takeValue (Cond.code y_Reader_takeValue b_Reader_takeValue 5 (some .int) :: BIG) rm_Reader_takeValue (PcI [.ref o0, .int p1] D (tyG cI cR cZ) (wRd cI cR o0 hh b q a n B pl rf hd L) sz) (QcI D res.1 (fun _ : Nat => wRd cI cR o0 hh b q a n B res.2.1 res.2.2 hd L) (va_A (wRd cI cR o0 hh b q a n B pl rf hd L) sz)) 0 0 (va_A (wRd cI cR o0 hh b q a n B pl rf hd L) sz) := by
  refine met_I (by decide) (Nat.le_of_ble_eq_true rfl) (fun p e s m args below meth c A hA C hr => ?_)
  have C : Cx p s m args meth c D (tyG cI cR cZ) b_Reader_takeValue 5 "MaskLayers$Reader" := C
  have hr : meth.sig.returnType = some .int := hr
  show J p l e rm_Reader_takeValue s m args below meth c D A (va_D A) 5 (MQ below (QcI D res.1 (fun _ : Nat => wRd cI cR o0 hh b q a n B res.2.1 res.2.2 hd L) A) args s 0 0 A) 0 0 (wRd cI cR o0 hh b q a n B pl rf hd L) [(0, .ref o0), (1, .int p1)] [] 0
  unfold Reader_takeValue at h
  refine j_iload_n C 1 d_Reader_takeValue_0 rfl ?_
  refine j_iconst C (v := 1) d_Reader_takeValue_1 (by decide) ?_
  refine j_icmp_ne C 12 d_Reader_takeValue_2 (by decide) (fun c9 => ?_) (fun c9 => ?_)
  · replace h := (if_neg c9).symm.trans h
    refine j_aload_n C 0 d_Reader_takeValue_12 rfl ?_
    refine j_iconst C (v := 0) d_Reader_takeValue_13 (by decide) ?_
    refine j_sipush C (v := 255) d_Reader_takeValue_14 (by decide) ?_
    obtain ⟨r1, hr1, h⟩ := bd_ok h
    refine j_IV C [.int 0, .int 255] hA 0 rfl rfl (c_Reader_take l D cI cR cZ o0 hh b q a n B pl rf hd L 0 255 hr1) (cw_Reader_65 C ⟨Nat.le_of_ble_eq_true rfl, Nat.le_of_ble_eq_true rfl⟩) [0, 1, 2, 3, 4, 5, 6, 7, 8, 9, 10, 11, 12] [] rfl rfl (by decide) (by decide) (by decide) rfl rfl (Nat.le_of_ble_eq_true rfl) d_Reader_takeValue_17 (by decide) (fun _ => ?_)
    refine j_ws (ws' := wRd cI cR o0 hh b q a n B r1.2.1 r1.2.2 hd L) rfl ?_
    refine j_istore_n C [(2, .int r1.1), (0, .ref o0), (1, .int p1)] d_Reader_takeValue_20 (by decide) rfl ?_
    refine j_iload_n C 0 d_Reader_takeValue_21 rfl ?_
    refine j_iconst C (v := (-1)) d_Reader_takeValue_22 (by decide) ?_
    refine j_icmp_ne C 30 d_Reader_takeValue_23 (by decide) (fun c7 => ?_) (fun c7 => ?_)
    · replace h := (if_neg c7).symm.trans h
      refine j_aload_n C 1 d_Reader_takeValue_30 rfl ?_
      refine j_iconst C (v := 0) d_Reader_takeValue_31 (by decide) ?_
      refine j_sipush C (v := 255) d_Reader_takeValue_32 (by decide) ?_
      obtain ⟨r2, hr2, h⟩ := bd_ok h
      refine j_IV C [.int 0, .int 255] hA 0 rfl rfl (c_Reader_take l D cI cR cZ o0 hh b q a n B r1.2.1 r1.2.2 hd L 0 255 hr2) (cw_Reader_65 C ⟨Nat.le_of_ble_eq_true rfl, Nat.le_of_ble_eq_true rfl⟩) [0, 1, 2, 3, 4, 5, 6, 7, 8, 9, 10, 11, 12] [] rfl rfl (by decide) (by decide) (by decide) rfl rfl (Nat.le_of_ble_eq_true rfl) d_Reader_takeValue_35 (by decide) (fun _ => ?_)
      refine j_ws (ws' := wRd cI cR o0 hh b q a n B r2.2.1 r2.2.2 hd L) rfl ?_
      refine j_sub [1, 0] rfl ?_
      exact t_Reader_takeValue_b38 C hr hA h
    · replace h := (if_pos c7).symm.trans h
      refine j_iconst C (v := (-1)) d_Reader_takeValue_26 (by decide) ?_
      refine j_goto C 38 d_Reader_takeValue_27 (by decide) ?_
      refine j_sub [1, 0] rfl ?_
      exact t_Reader_takeValue_b38 C hr hA h
  · replace h := (if_pos c9).symm.trans h
    refine j_aload_n C 0 d_Reader_takeValue_5 rfl ?_
    refine j_iconst C (v := 0) d_Reader_takeValue_6 (by decide) ?_
    refine j_iconst C (v := 1) d_Reader_takeValue_7 (by decide) ?_
    obtain ⟨r8, hr8, h⟩ := bd_ok h
    refine j_IV C [.int 0, .int 1] hA 0 rfl rfl (c_Reader_take l D cI cR cZ o0 hh b q a n B pl rf hd L 0 1 hr8) (cw_Reader_65 C ⟨Nat.le_of_ble_eq_true rfl, Nat.le_of_ble_eq_true rfl⟩) [0, 1, 2, 3, 4, 5, 6, 7, 8, 9, 10, 11, 12] [] rfl rfl (by decide) (by decide) (by decide) rfl rfl (Nat.le_of_ble_eq_true rfl) d_Reader_takeValue_8 (by decide) (fun _ => ?_)
    refine j_ws (ws' := wRd cI cR o0 hh b q a n B r8.2.1 r8.2.2 hd L) rfl ?_
    obtain rfl := Option.some.inj h
    exact j_iret C hr d_Reader_takeValue_11 0 rfl
def Reader_readColours_l3 (n : Nat) (B : ByS) (hd : (Nat → Int32)) (v1 : Int32) (v3 : Int32) : Nat → Int32 → Int32 → Int32 → LyS → Option (Nat × Int32 × Int32 × LyS)
  | 0, _, _, _, _ => none
  | k + 1, v4, pl, rf, L =>
  (if v3 ≤ v4 then some (0, pl, rf, L)
  else (Reader_takeValue n B pl rf hd L v1).bind fun r1 =>
  (if r1.1 = ((-1)) then some (1, r1.2.1, r1.2.2, L)
  else gd v1 4 (gd v4 n (Reader_readColours_l3 n B hd v1 v3 k (v4 + 1) r1.2.1 r1.2.2 (Ls L v1.toNatClampNeg v4.toNatClampNeg r1.1)))))
def Reader_readColours (fu : Nat) (n : Nat) (B : ByS) (pl : Int32) (rf : Int32) (hd : (Nat → Int32)) (L : LyS) (p1 : Int32) (p2 : Int32) (p3 : Int32) : Option (Int32 × Int32 × Int32 × LyS) :=
  (Reader_readColours_l3 n B hd p1 p3 fu p2 pl rf L).bind fun r6 =>
  (if r6.1 = 0 then zb 1 (some (1, r6.2.1, r6.2.2.1, r6.2.2.2))
  else zb 0 (some (0, r6.2.1, r6.2.2.1, r6.2.2.2)))
set_option maxRecDepth 100000 in
set_option maxHeartbeats 4000000 in
theorem t_Reader_readColours_l3 {p : Program} {l : Launch} {e : Env} {s : State} {m : MethodId} {args : Array Value} {below : List Frame} {meth : Method} {c : Code} {D : va_G} {cI cR cZ : ClassId} {A : Nat → Prop} {Q : State → Prop} (C : Cx p s m args meth c D (tyG cI cR cZ) b_Reader_readColours 6 "MaskLayers$Reader") (hA : ∀ q : Nat, s.heap.size ≤ q → A q) {o0 : Nat} {hh : Nat} {b : Nat} {q : Nat} {a : (Nat → Nat)} {n : Nat} {B : ByS} {hd : (Nat → Int32)} {v1 : Int32} {v3 : Int32} {out : Nat × Int32 × Int32 × LyS} : ∀ (k : Nat) (v4 : Int32) (pl : Int32) (rf : Int32) (L : LyS), Reader_readColours_l3 n B hd v1 v3 k v4 pl rf L = some out → (out.1 = 0 → J p l e rm_Reader_readColours s m args below meth c D A (va_D A) 6 Q 0 0 (wRd cI cR o0 hh b q a n B out.2.1 out.2.2.1 hd out.2.2.2) [] [] 44) → (out.1 = 1 → J p l e rm_Reader_readColours s m args below meth c D A (va_D A) 6 Q 0 0 (wRd cI cR o0 hh b q a n B out.2.1 out.2.2.1 hd out.2.2.2) [] [] 22) → J p l e rm_Reader_readColours s m args below meth c D A (va_D A) 6 Q 0 0 (wRd cI cR o0 hh b q a n B pl rf hd L) [(0, .ref o0), (1, .int v1), (3, .int v3), (4, .int v4)] [] 3 := by
  intro k
  induction k with
  | zero => intro v4 pl rf L h; cases (show none = some out from h)
  | succ k ih =>
    intro v4 pl rf L h x0 x1
    rw [Reader_readColours_l3] at h
    refine j_iload C 3 d_Reader_readColours_3 rfl ?_
    refine j_iload_n C 2 d_Reader_readColours_5 rfl ?_
    refine j_icmp_ge C 44 d_Reader_readColours_6 (by decide) (fun c5 => ?_) (fun c5 => ?_)
    · replace h := (if_pos c5).symm.trans h
      obtain rfl := Option.some.inj h
      refine j_sub [] rfl ?_
      exact x0 rfl
    · replace h := (if_neg c5).symm.trans h
      refine j_aload_n C 0 d_Reader_readColours_9 rfl ?_
      refine j_iload_n C 1 d_Reader_readColours_10 rfl ?_
      obtain ⟨r1, hr1, h⟩ := bd_ok h
      refine j_IV C [.int v1] hA 0 rfl rfl (c_Reader_takeValue l D cI cR cZ o0 hh b q a n B pl rf hd L v1 hr1) (cw_Reader_115 C ⟨Nat.le_of_ble_eq_true rfl, Nat.le_of_ble_eq_true rfl⟩) [0, 1, 2, 3, 4, 5, 6, 7, 8, 9, 10, 11, 12] [] rfl rfl (by decide) (by decide) (by decide) rfl rfl (Nat.le_of_ble_eq_true rfl) d_Reader_readColours_11 (by decide) (fun _ => ?_)
      refine j_ws (ws' := wRd cI cR o0 hh b q a n B r1.2.1 r1.2.2 hd L) rfl ?_
      refine j_istore C [(5, .int r1.1), (0, .ref o0), (1, .int v1), (3, .int v3), (4, .int v4)] d_Reader_readColours_14 (by decide) rfl ?_
      refine j_iload C 0 d_Reader_readColours_16 rfl ?_
      refine j_iconst C (v := (-1)) d_Reader_readColours_18 (by decide) ?_
      refine j_icmp_ne C 24 d_Reader_readColours_19 (by decide) (fun c4 => ?_) (fun c4 => ?_)
      · replace h := (if_neg c4).symm.trans h
        refine j_aload_n C 1 d_Reader_readColours_24 rfl ?_
        refine gf_Reader_15 C 0 (v := .ref (a 0)) rfl rfl d_Reader_readColours_25 ?_
        refine gf_Reader_118 C 4 (v := .ref (a 1)) rfl rfl d_Reader_readColours_28 ?_
        refine j_iload_n C 2 d_Reader_readColours_31 rfl ?_
        obtain ⟨b2, h⟩ := gd_ok h
        refine j_aald C 5 (t0 := 2) rfl rfl b2 d_Reader_readColours_32 ?_
        refine j_iload C 4 d_Reader_readColours_33 rfl ?_
        refine j_iload C 0 d_Reader_readColours_35 rfl ?_
        obtain ⟨b3, h⟩ := gd_ok h
        refine j_iast C (6 + v1.toNatClampNeg) (wRd cI cR o0 hh b q a n B r1.2.1 r1.2.2 hd (Ls L v1.toNatClampNeg v4.toNatClampNeg r1.1)) (t0 := 0) (co_4 (P := fun k => (wRd cI cR o0 hh b q a n B r1.2.1 r1.2.2 hd L)[6 + k]? = some (a (2 + k), .inl (cI, n, .inl (L.2 k)))) rfl rfl rfl rfl (in_lt b2)) (co_4 (P := fun k => (wRd cI cR o0 hh b q a n B r1.2.1 r1.2.2 hd L).set (6 + k) (a (2 + k), .inl (cI, n, .inl (upd (L.2 k) v4.toNatClampNeg r1.1))) = wRd cI cR o0 hh b q a n B r1.2.1 r1.2.2 hd (Ls L k v4.toNatClampNeg r1.1)) rfl rfl rfl rfl (in_lt b2)) rfl b3 d_Reader_readColours_37 ?_
        refine j_iinc C [(4, .int (v4 + 1)), (5, .int r1.1), (0, .ref o0), (1, .int v1), (3, .int v3)] 4 (v4 + 1) d_Reader_readColours_38 rfl rfl (by decide) rfl ?_
        refine j_goto C 3 d_Reader_readColours_41 (by decide) ?_
        refine j_sub [2, 3, 4, 0] rfl ?_
        exact ih (v4 + 1) r1.2.1 r1.2.2 (Ls L v1.toNatClampNeg v4.toNatClampNeg r1.1) h x0 x1
      · replace h := (if_pos c4).symm.trans h
        obtain rfl := Option.some.inj h
        refine j_sub [] rfl ?_
        exact x1 rfl
set_option maxRecDepth 100000 in
set_option maxHeartbeats 4000000 in
theorem c_Reader_readColours (l : Launch) (D : va_G) (cI cR cZ : ClassId) (fu : Nat) (o0 : Nat) (hh : Nat) (b : Nat) (q : Nat) (a : (Nat → Nat)) (n : Nat) (B : ByS) (pl : Int32) (rf : Int32) (hd : (Nat → Int32)) (L : LyS) (p1 : Int32) (p2 : Int32) (p3 : Int32) {res : (Int32 × Int32 × Int32 × LyS)} (h : Reader_readColours fu n B pl rf hd L p1 p2 p3 = some res) (sz : Nat) : Met l y_Reader_readColours (Cond.code y_Reader_readColours b_Reader_readColours 6 (some .boolean) :: BIG) rm_Reader_readColours (PcI [.ref o0, .int p1, .int p2, .int p3] D (tyG cI cR cZ) (wRd cI cR o0 hh b q a n B pl rf hd L) sz) (QcI D res.1 (fun _ : Nat => wRd cI cR o0 hh b q a n B res.2.1 res.2.2.1 hd res.2.2.2) (va_A (wRd cI cR o0 hh b q a n B pl rf hd L) sz)) 0 0 (va_A (wRd cI cR o0 hh b q a n B pl rf hd L) sz) := by
  refine met_I (by decide) (Nat.le_of_ble_eq_true rfl) (fun p e s m args below meth c A hA C hr => ?_)
  have C : Cx p s m args meth c D (tyG cI cR cZ) b_Reader_readColours 6 "MaskLayers$Reader" := C
  have hr : meth.sig.returnType = some .boolean := hr
  show J p l e rm_Reader_readColours s m args below meth c D A (va_D A) 6 (MQ below (QcI D res.1 (fun _ : Nat => wRd cI cR o0 hh b q a n B res.2.1 res.2.2.1 hd res.2.2.2) A) args s 0 0 A) 0 0 (wRd cI cR o0 hh b q a n B pl rf hd L) [(0, .ref o0), (1, .int p1), (2, .int p2), (3, .int p3)] [] 0
  unfold Reader_readColours at h
  refine j_iload_n C 2 d_Reader_readColours_0 rfl ?_
  refine j_istore C [(4, .int p2), (0, .ref o0), (1, .int p1), (2, .int p2), (3, .int p3)] d_Reader_readColours_1 (by decide) rfl ?_
  obtain ⟨r6, hr6, h⟩ := bd_ok h
  refine j_sub [1, 2, 4, 0] rfl ?_
  refine t_Reader_readColours_l3 C hA fu p2 pl rf L hr6 (fun e9 => ?_) (fun e10 => ?_)
  · replace h := (if_pos e9).symm.trans h
    refine j_iconst C (v := 1) d_Reader_readColours_44 (by decide) ?_
    obtain ⟨b7, h⟩ := zb_ok h
    obtain rfl := Option.some.inj h
    exact j_iretZ C hr d_Reader_readColours_45 b7 0 rfl
  · replace h := (if_neg (by rw [e10]; decide)).symm.trans h
    refine j_iconst C (v := 0) d_Reader_readColours_22 (by decide) ?_
    obtain ⟨b8, h⟩ := zb_ok h
    obtain rfl := Option.some.inj h
    exact j_iretZ C hr d_Reader_readColours_23 b8 0 rfl
def Reader_readBits_l28 (n : Nat) (B : ByS) (pl : Int32) (rf : Int32) (hd : (Nat → Int32)) (v2 : Int32) (v3 : Int32) (v4 : Int32) : Nat → Int32 → LyS → Option (Nat × LyS)
  | 0, _, _ => none
  | k + 1, v5, L =>
  (if 8 ≤ v5 then some (0, L)
  else (if v2 ≤ (v3 + v5) then (if ((v4 >>> ((7 - v5) &&& 31)) &&& 1) = 1 then some (1, L)
  else Reader_readBits_l28 n B pl rf hd v2 v3 v4 k (v5 + 1) L)
  else gd 1 4 (gd (v3 + v5) n (Reader_readBits_l28 n B pl rf hd v2 v3 v4 k (v5 + 1) (Ls L ((1 : Int32).toNatClampNeg) ((v3 + v5).toNatClampNeg) ((v4 >>> ((7 - v5) &&& 31)) &&& 1))))))
def Reader_readBits_l2 (fu : Nat) (n : Nat) (B : ByS) (hd : (Nat → Int32)) (v2 : Int32) : Nat → Int32 → Int32 → Int32 → LyS → Option (Nat × Int32 × Int32 × LyS)
  | 0, _, _, _, _ => none
  | k + 1, v3, pl, rf, L =>
  (if v2 ≤ v3 then some (0, pl, rf, L)
  else (Reader_take n B pl rf hd L 0 255).bind fun r1 =>
  (if r1.1 = ((-1)) then some (1, r1.2.1, r1.2.2, L)
  else (Reader_readBits_l28 n B r1.2.1 r1.2.2 hd v2 v3 r1.1 fu 0 L).bind fun r7 =>
  (if r7.1 = 0 then Reader_readBits_l2 fu n B hd v2 k (v3 + 8) r1.2.1 r1.2.2 r7.2
  else some (2, r1.2.1, r1.2.2, r7.2))))
def Reader_readBits (fu : Nat) (n : Nat) (B : ByS) (pl : Int32) (rf : Int32) (hd : (Nat → Int32)) (L : LyS) (p1 : Int32) (p2 : Int32) : Option (Int32 × Int32 × Int32 × LyS) :=
  (Reader_readBits_l2 fu n B hd p2 fu p1 pl rf L).bind fun r12 =>
  (if r12.1 = 0 then zb 1 (some (1, r12.2.1, r12.2.2.1, r12.2.2.2))
  else (if r12.1 = 1 then zb 0 (some (0, r12.2.1, r12.2.2.1, r12.2.2.2))
  else (Reader_refuse n B r12.2.1 r12.2.2.1 hd r12.2.2.2 (r12.2.1 - 1)).bind fun r15 =>
  zb r15.1 (some (r15.1, r12.2.1, r15.2, r12.2.2.2))))
set_option maxRecDepth 100000 in
set_option maxHeartbeats 4000000 in
theorem t_Reader_readBits_l28 {p : Program} {l : Launch} {e : Env} {s : State} {m : MethodId} {args : Array Value} {below : List Frame} {meth : Method} {c : Code} {D : va_G} {cI cR cZ : ClassId} {A : Nat → Prop} {Q : State → Prop} (C : Cx p s m args meth c D (tyG cI cR cZ) b_Reader_readBits 7 "MaskLayers$Reader") (hA : ∀ q : Nat, s.heap.size ≤ q → A q) {o0 : Nat} {hh : Nat} {b : Nat} {q : Nat} {a : (Nat → Nat)} {n : Nat} {B : ByS} {pl : Int32} {rf : Int32} {hd : (Nat → Int32)} {v2 : Int32} {v3 : Int32} {v4 : Int32} {out : Nat × LyS} : ∀ (k : Nat) (v5 : Int32) (L : LyS), Reader_readBits_l28 n B pl rf hd v2 v3 v4 k v5 L = some out → (out.1 = 0 → J p l e rm_Reader_readBits s m args below meth c D A (va_D A) 7 Q 0 0 (wRd cI cR o0 hh b q a n B pl rf hd out.2) [(0, .ref o0), (2, .int v2), (3, .int v3)] [] 97) → (out.1 = 1 → J p l e rm_Reader_readBits s m args below meth c D A (va_D A) 7 Q 0 0 (wRd cI cR o0 hh b q a n B pl rf hd out.2) [(0, .ref o0)] [] 80) → J p l e rm_Reader_readBits s m args below meth c D A (va_D A) 7 Q 0 0 (wRd cI cR o0 hh b q a n B pl rf hd L) [(0, .ref o0), (2, .int v2), (3, .int v3), (4, .int v4), (5, .int v5)] [] 28 := by
  intro k
  induction k with
  | zero => intro v5 L h; cases (show none = some out from h)
  | succ k ih =>
    intro v5 L h x0 x1
    rw [Reader_readBits_l28] at h
    refine j_iload C 4 d_Reader_readBits_28 rfl ?_
    refine j_bipush C (v := 8) d_Reader_readBits_30 (by decide) ?_
    refine j_icmp_ge C 97 d_Reader_readBits_32 (by decide) (fun c6 => ?_) (fun c6 => ?_)
    · replace h := (if_pos c6).symm.trans h
      obtain rfl := Option.some.inj h
      refine j_sub [0, 1, 2] rfl ?_
      exact x0 rfl
    · replace h := (if_neg c6).symm.trans h
      refine j_iload C 3 d_Reader_readBits_35 rfl ?_
      refine j_bipush C (v := 7) d_Reader_readBits_37 (by decide) ?_
      refine j_iload C 4 d_Reader_readBits_39 rfl ?_
      refine j_isub C d_Reader_readBits_41 ?_
      refine j_ishr C d_Reader_readBits_42 ?_
      refine j_iconst C (v := 1) d_Reader_readBits_43 (by decide) ?_
      refine j_iand C d_Reader_readBits_44 ?_
      refine j_istore C [(6, .int ((v4 >>> ((7 - v5) &&& 31)) &&& 1)), (0, .ref o0), (2, .int v2), (3, .int v3), (4, .int v4), (5, .int v5)] d_Reader_readBits_45 (by decide) rfl ?_
      refine j_iload_n C 3 d_Reader_readBits_47 rfl ?_
      refine j_iload C 5 d_Reader_readBits_48 rfl ?_
      refine j_iadd C d_Reader_readBits_50 ?_
      refine j_iload_n C 2 d_Reader_readBits_51 rfl ?_
      refine j_icmp_ge C 74 d_Reader_readBits_52 (by decide) (fun c5 => ?_) (fun c5 => ?_)
      · replace h := (if_pos c5).symm.trans h
        refine j_iload C 0 d_Reader_readBits_74 rfl ?_
        refine j_iconst C (v := 1) d_Reader_readBits_76 (by decide) ?_
        refine j_icmp_ne C 91 d_Reader_readBits_77 (by decide) (fun c2 => ?_) (fun c2 => ?_)
        · replace h := (if_neg c2).symm.trans h
          refine j_iinc C [(5, .int (v5 + 1)), (6, .int ((v4 >>> ((7 - v5) &&& 31)) &&& 1)), (0, .ref o0), (2, .int v2), (3, .int v3), (4, .int v4)] 5 (v5 + 1) d_Reader_readBits_91 rfl rfl (by decide) rfl ?_
          refine j_goto C 28 d_Reader_readBits_94 (by decide) ?_
          refine j_sub [2, 3, 4, 5, 0] rfl ?_
          exact ih (v5 + 1) L h x0 x1
        · replace h := (if_pos c2).symm.trans h
          obtain rfl := Option.some.inj h
          refine j_sub [1] rfl ?_
          exact x1 rfl
      · replace h := (if_neg c5).symm.trans h
        refine j_aload_n C 1 d_Reader_readBits_55 rfl ?_
        refine gf_Reader_15 C 0 (v := .ref (a 0)) rfl rfl d_Reader_readBits_56 ?_
        refine gf_Reader_118 C 4 (v := .ref (a 1)) rfl rfl d_Reader_readBits_59 ?_
        refine j_iconst C (v := 1) d_Reader_readBits_62 (by decide) ?_
        obtain ⟨b3, h⟩ := gd_ok h
        refine j_aald C 5 (t0 := 2) rfl rfl b3 d_Reader_readBits_63 ?_
        refine j_iload_n C 3 d_Reader_readBits_64 rfl ?_
        refine j_iload C 5 d_Reader_readBits_65 rfl ?_
        refine j_iadd C d_Reader_readBits_67 ?_
        refine j_iload C 0 d_Reader_readBits_68 rfl ?_
        obtain ⟨b4, h⟩ := gd_ok h
        refine j_iast C (6 + (1 : Int32).toNatClampNeg) (wRd cI cR o0 hh b q a n B pl rf hd (Ls L ((1 : Int32).toNatClampNeg) ((v3 + v5).toNatClampNeg) ((v4 >>> ((7 - v5) &&& 31)) &&& 1))) (t0 := 0) (co_4 (P := fun k => (wRd cI cR o0 hh b q a n B pl rf hd L)[6 + k]? = some (a (2 + k), .inl (cI, n, .inl (L.2 k)))) rfl rfl rfl rfl (in_lt b3)) (co_4 (P := fun k => (wRd cI cR o0 hh b q a n B pl rf hd L).set (6 + k) (a (2 + k), .inl (cI, n, .inl (upd (L.2 k) ((v3 + v5).toNatClampNeg) ((v4 >>> ((7 - v5) &&& 31)) &&& 1)))) = wRd cI cR o0 hh b q a n B pl rf hd (Ls L k ((v3 + v5).toNatClampNeg) ((v4 >>> ((7 - v5) &&& 31)) &&& 1))) rfl rfl rfl rfl (in_lt b3)) rfl b4 d_Reader_readBits_70 ?_
        refine j_goto C 91 d_Reader_readBits_71 (by decide) ?_
        refine j_iinc C [(5, .int (v5 + 1)), (6, .int ((v4 >>> ((7 - v5) &&& 31)) &&& 1)), (0, .ref o0), (2, .int v2), (3, .int v3), (4, .int v4)] 5 (v5 + 1) d_Reader_readBits_91 rfl rfl (by decide) rfl ?_
        refine j_goto C 28 d_Reader_readBits_94 (by decide) ?_
        refine j_sub [2, 3, 4, 5, 0] rfl ?_
        exact ih (v5 + 1) (Ls L ((1 : Int32).toNatClampNeg) ((v3 + v5).toNatClampNeg) ((v4 >>> ((7 - v5) &&& 31)) &&& 1)) h x0 x1
set_option maxRecDepth 100000 in
set_option maxHeartbeats 4000000 in
theorem t_Reader_readBits_l2 {p : Program} {l : Launch} {e : Env} {s : State} {m : MethodId} {args : Array Value} {below : List Frame} {meth : Method} {c : Code} {D : va_G} {cI cR cZ : ClassId} {A : Nat → Prop} {Q : State → Prop} (C : Cx p s m args meth c D (tyG cI cR cZ) b_Reader_readBits 7 "MaskLayers$Reader") (hA : ∀ q : Nat, s.heap.size ≤ q → A q) {o0 : Nat} {hh : Nat} {b : Nat} {q : Nat} {a : (Nat → Nat)} {n : Nat} {fu : Nat} {B : ByS} {hd : (Nat → Int32)} {v2 : Int32} {out : Nat × Int32 × Int32 × LyS} : ∀ (k : Nat) (v3 : Int32) (pl : Int32) (rf : Int32) (L : LyS), Reader_readBits_l2 fu n B hd v2 k v3 pl rf L = some out → (out.1 = 0 → J p l e rm_Reader_readBits s m args below meth c D A (va_D A) 7 Q 0 0 (wRd cI cR o0 hh b q a n B out.2.1 out.2.2.1 hd out.2.2.2) [] [] 103) → (out.1 = 1 → J p l e rm_Reader_readBits s m args below meth c D A (va_D A) 7 Q 0 0 (wRd cI cR o0 hh b q a n B out.2.1 out.2.2.1 hd out.2.2.2) [] [] 23) → (out.1 = 2 → J p l e rm_Reader_readBits s m args below meth c D A (va_D A) 7 Q 0 0 (wRd cI cR o0 hh b q a n B out.2.1 out.2.2.1 hd out.2.2.2) [(0, .ref o0)] [] 80) → J p l e rm_Reader_readBits s m args below meth c D A (va_D A) 7 Q 0 0 (wRd cI cR o0 hh b q a n B pl rf hd L) [(0, .ref o0), (2, .int v2), (3, .int v3)] [] 2 := by
  intro k
  induction k with
  | zero => intro v3 pl rf L h; cases (show none = some out from h)
  | succ k ih =>
    intro v3 pl rf L h x0 x1 x2
    rw [Reader_readBits_l2] at h
    refine j_iload_n C 2 d_Reader_readBits_2 rfl ?_
    refine j_iload_n C 1 d_Reader_readBits_3 rfl ?_
    refine j_icmp_ge C 103 d_Reader_readBits_4 (by decide) (fun c11 => ?_) (fun c11 => ?_)
    · replace h := (if_pos c11).symm.trans h
      obtain rfl := Option.some.inj h
      refine j_sub [] rfl ?_
      exact x0 rfl
    · replace h := (if_neg c11).symm.trans h
      refine j_aload_n C 0 d_Reader_readBits_7 rfl ?_
      refine j_iconst C (v := 0) d_Reader_readBits_8 (by decide) ?_
      refine j_sipush C (v := 255) d_Reader_readBits_9 (by decide) ?_
      obtain ⟨r1, hr1, h⟩ := bd_ok h
      refine j_IV C [.int 0, .int 255] hA 0 rfl rfl (c_Reader_take l D cI cR cZ o0 hh b q a n B pl rf hd L 0 255 hr1) (cw_Reader_65 C ⟨Nat.le_of_ble_eq_true rfl, Nat.le_of_ble_eq_true rfl⟩) [0, 1, 2, 3, 4, 5, 6, 7, 8, 9, 10, 11, 12] [] rfl rfl (by decide) (by decide) (by decide) rfl rfl (Nat.le_of_ble_eq_true rfl) d_Reader_readBits_12 (by decide) (fun _ => ?_)
      refine j_ws (ws' := wRd cI cR o0 hh b q a n B r1.2.1 r1.2.2 hd L) rfl ?_
      refine j_istore C [(4, .int r1.1), (0, .ref o0), (2, .int v2), (3, .int v3)] d_Reader_readBits_15 (by decide) rfl ?_
      refine j_iload C 0 d_Reader_readBits_17 rfl ?_
      refine j_iconst C (v := (-1)) d_Reader_readBits_19 (by decide) ?_
      refine j_icmp_ne C 25 d_Reader_readBits_20 (by decide) (fun c10 => ?_) (fun c10 => ?_)
      · replace h := (if_neg c10).symm.trans h
        refine j_iconst C (v := 0) d_Reader_readBits_25 (by decide) ?_
        refine j_istore C [(5, .int 0), (4, .int r1.1), (0, .ref o0), (2, .int v2), (3, .int v3)] d_Reader_readBits_26 (by decide) rfl ?_
        obtain ⟨r7, hr7, h⟩ := bd_ok h
        refine j_sub [2, 3, 4, 1, 0] rfl ?_
        refine t_Reader_readBits_l28 C hA fu 0 L hr7 (fun e8 => ?_) (fun e9 => ?_)
        · replace h := (if_pos e8).symm.trans h
          refine j_iinc C [(3, .int (v3 + 8)), (0, .ref o0), (2, .int v2)] 2 (v3 + 8) d_Reader_readBits_97 rfl rfl (by decide) rfl ?_
          refine j_goto C 2 d_Reader_readBits_100 (by decide) ?_
          refine j_sub [1, 2, 0] rfl ?_
          exact ih (v3 + 8) r1.2.1 r1.2.2 r7.2 h x0 x1 x2
        · replace h := (if_neg (by rw [e9]; decide)).symm.trans h
          obtain rfl := Option.some.inj h
          refine j_sub [0] rfl ?_
          exact x2 rfl
      · replace h := (if_pos c10).symm.trans h
        obtain rfl := Option.some.inj h
        refine j_sub [] rfl ?_
        exact x1 rfl
set_option maxRecDepth 100000 in
set_option maxHeartbeats 4000000 in
theorem c_Reader_readBits (l : Launch) (D : va_G) (cI cR cZ : ClassId) (fu : Nat) (o0 : Nat) (hh : Nat) (b : Nat) (q : Nat) (a : (Nat → Nat)) (n : Nat) (B : ByS) (pl : Int32) (rf : Int32) (hd : (Nat → Int32)) (L : LyS) (p1 : Int32) (p2 : Int32) {res : (Int32 × Int32 × Int32 × LyS)} (h : Reader_readBits fu n B pl rf hd L p1 p2 = some res) (sz : Nat) : Met l y_Reader_readBits (Cond.code y_Reader_readBits b_Reader_readBits 7 (some .boolean) :: BIG) rm_Reader_readBits (PcI [.ref o0, .int p1, .int p2] D (tyG cI cR cZ) (wRd cI cR o0 hh b q a n B pl rf hd L) sz) (QcI D res.1 (fun _ : Nat => wRd cI cR o0 hh b q a n B res.2.1 res.2.2.1 hd res.2.2.2) (va_A (wRd cI cR o0 hh b q a n B pl rf hd L) sz)) 0 0 (va_A (wRd cI cR o0 hh b q a n B pl rf hd L) sz) := by
  refine met_I (by decide) (Nat.le_of_ble_eq_true rfl) (fun p e s m args below meth c A hA C hr => ?_)
  have C : Cx p s m args meth c D (tyG cI cR cZ) b_Reader_readBits 7 "MaskLayers$Reader" := C
  have hr : meth.sig.returnType = some .boolean := hr
  show J p l e rm_Reader_readBits s m args below meth c D A (va_D A) 7 (MQ below (QcI D res.1 (fun _ : Nat => wRd cI cR o0 hh b q a n B res.2.1 res.2.2.1 hd res.2.2.2) A) args s 0 0 A) 0 0 (wRd cI cR o0 hh b q a n B pl rf hd L) [(0, .ref o0), (1, .int p1), (2, .int p2)] [] 0
  unfold Reader_readBits at h
  refine j_iload_n C 1 d_Reader_readBits_0 rfl ?_
  refine j_istore_n C [(3, .int p1), (0, .ref o0), (1, .int p1), (2, .int p2)] d_Reader_readBits_1 (by decide) rfl ?_
  obtain ⟨r12, hr12, h⟩ := bd_ok h
  refine j_sub [1, 3, 0] rfl ?_
  refine t_Reader_readBits_l2 C hA fu p1 pl rf L hr12 (fun e17 => ?_) (fun e18 => ?_) (fun e19 => ?_)
  · replace h := (if_pos e17).symm.trans h
    refine j_iconst C (v := 1) d_Reader_readBits_103 (by decide) ?_
    obtain ⟨b13, h⟩ := zb_ok h
    obtain rfl := Option.some.inj h
    exact j_iretZ C hr d_Reader_readBits_104 b13 0 rfl
  · replace h := (if_neg (by rw [e18]; decide)).symm.trans h
    replace h := (if_pos e18).symm.trans h
    refine j_iconst C (v := 0) d_Reader_readBits_23 (by decide) ?_
    obtain ⟨b14, h⟩ := zb_ok h
    obtain rfl := Option.some.inj h
    exact j_iretZ C hr d_Reader_readBits_24 b14 0 rfl
  · replace h := (if_neg (by rw [e19]; decide)).symm.trans h
    replace h := (if_neg (by rw [e19]; decide)).symm.trans h
    refine j_aload_n C 0 d_Reader_readBits_80 rfl ?_
    refine j_aload_n C 0 d_Reader_readBits_81 rfl ?_
    refine gf_Reader_26 C 0 (v := .int r12.2.1) rfl rfl d_Reader_readBits_82 ?_
    refine j_iconst C (v := 1) d_Reader_readBits_85 (by decide) ?_
    refine j_isub C d_Reader_readBits_86 ?_
    obtain ⟨r15, hr15, h⟩ := bd_ok h
    refine j_IV C [.int (r12.2.1 - 1)] hA 0 rfl rfl (c_Reader_refuse l D cI cR cZ o0 hh b q a n B r12.2.1 r12.2.2.1 hd r12.2.2.2 (r12.2.1 - 1) hr15) (cw_Reader_52 C ⟨Nat.le_of_ble_eq_true rfl, Nat.le_of_ble_eq_true rfl⟩) [0, 1, 2, 3, 4, 5, 6, 7, 8, 9, 10, 11, 12] [] rfl rfl (by decide) (by decide) (by decide) rfl rfl (Nat.le_of_ble_eq_true rfl) d_Reader_readBits_87 (by decide) (fun _ => ?_)
    refine j_ws (ws' := wRd cI cR o0 hh b q a n B r12.2.1 r15.2 hd r12.2.2.2) rfl ?_
    obtain ⟨b16, h⟩ := zb_ok h
    obtain rfl := Option.some.inj h
    exact j_iretZ C hr d_Reader_readBits_90 b16 0 rfl
def Reader_readRuns_l9 (n : Nat) (B : ByS) (hd : (Nat → Int32)) (v1 : Int32) (v3 : Int32) : Nat → Int32 → Int32 → Int32 → Int32 → Int32 → LyS → Option (Nat × Int32 × Int32 × LyS)
  | 0, _, _, _, _, _, _ => none
  | k + 1, v4, v5, v6, pl, rf, L =>
  (if v3 ≤ v6 then some (0, pl, rf, L)
  else (if v4 = 0 then (Reader_take n B pl rf hd L 1 (mn 255 (v3 - v6))).bind fun r3 =>
  (if r3.1 = ((-1)) then (if (((-1)) : Int32) = ((-1)) then some (1, r3.2.1, r3.2.2, L)
  else gd v1 4 (gd v6 n (Reader_readRuns_l9 n B hd v1 v3 k (r3.1 + (-1)) ((-1)) (v6 + 1) r3.2.1 r3.2.2 (Ls L v1.toNatClampNeg v6.toNatClampNeg ((-1))))))
  else (Reader_takeValue n B r3.2.1 r3.2.2 hd L v1).bind fun r4 =>
  (if r4.1 = ((-1)) then some (1, r4.2.1, r4.2.2, L)
  else gd v1 4 (gd v6 n (Reader_readRuns_l9 n B hd v1 v3 k (r3.1 + (-1)) r4.1 (v6 + 1) r4.2.1 r4.2.2 (Ls L v1.toNatClampNeg v6.toNatClampNeg r4.1)))))
  else gd v1 4 (gd v6 n (Reader_readRuns_l9 n B hd v1 v3 k (v4 + (-1)) v5 (v6 + 1) pl rf (Ls L v1.toNatClampNeg v6.toNatClampNeg v5)))))
def Reader_readRuns (fu : Nat) (n : Nat) (B : ByS) (pl : Int32) (rf : Int32) (hd : (Nat → Int32)) (L : LyS) (p1 : Int32) (p2 : Int32) (p3 : Int32) : Option (Int32 × Int32 × Int32 × LyS) :=
  (Reader_readRuns_l9 n B hd p1 p3 fu 0 ((-1)) p2 pl rf L).bind fun r14 =>
  (if r14.1 = 0 then zb 1 (some (1, r14.2.1, r14.2.2.1, r14.2.2.2))
  else zb 0 (some (0, r14.2.1, r14.2.2.1, r14.2.2.2)))
set_option maxRecDepth 100000 in
set_option maxHeartbeats 4000000 in
theorem t_Reader_readRuns_l9 {p : Program} {l : Launch} {e : Env} {s : State} {m : MethodId} {args : Array Value} {below : List Frame} {meth : Method} {c : Code} {D : va_G} {cI cR cZ : ClassId} {A : Nat → Prop} {Q : State → Prop} (C : Cx p s m args meth c D (tyG cI cR cZ) b_Reader_readRuns 7 "MaskLayers$Reader") (hA : ∀ q : Nat, s.heap.size ≤ q → A q) {o0 : Nat} {hh : Nat} {b : Nat} {q : Nat} {a : (Nat → Nat)} {n : Nat} {B : ByS} {hd : (Nat → Int32)} {v1 : Int32} {v3 : Int32} {out : Nat × Int32 × Int32 × LyS} : ∀ (k : Nat) (v4 : Int32) (v5 : Int32) (v6 : Int32) (pl : Int32) (rf : Int32) (L : LyS), Reader_readRuns_l9 n B hd v1 v3 k v4 v5 v6 pl rf L = some out → (out.1 = 0 → J p l e rm_Reader_readRuns s m args below meth c D A (va_D A) 7 Q 0 0 (wRd cI cR o0 hh b q a n B out.2.1 out.2.2.1 hd out.2.2.2) [] [] 85) → (out.1 = 1 → J p l e rm_Reader_readRuns s m args below meth c D A (va_D A) 7 Q 0 0 (wRd cI cR o0 hh b q a n B out.2.1 out.2.2.1 hd out.2.2.2) [] [] 60) → J p l e rm_Reader_readRuns s m args below meth c D A (va_D A) 7 Q 0 0 (wRd cI cR o0 hh b q a n B pl rf hd L) [(0, .ref o0), (1, .int v1), (3, .int v3), (4, .int v4), (5, .int v5), (6, .int v6)] [] 9 := by
  intro k
  induction k with
  | zero => intro v4 v5 v6 pl rf L h; cases (show none = some out from h)
  | succ k ih =>
    intro v4 v5 v6 pl rf L h x0 x1
    rw [Reader_readRuns_l9] at h
    refine j_iload C 5 d_Reader_readRuns_9 rfl ?_
    refine j_iload_n C 2 d_Reader_readRuns_11 rfl ?_
    refine j_icmp_ge C 85 d_Reader_readRuns_12 (by decide) (fun c13 => ?_) (fun c13 => ?_)
    · replace h := (if_pos c13).symm.trans h
      obtain rfl := Option.some.inj h
      refine j_sub [] rfl ?_
      exact x0 rfl
    · replace h := (if_neg c13).symm.trans h
      refine j_iload C 3 d_Reader_readRuns_15 rfl ?_
      refine j_if_ne C 62 d_Reader_readRuns_17 (by decide) (fun c12 => ?_) (fun c12 => ?_)
      · replace h := (if_neg c12).symm.trans h
        refine j_aload_n C 0 d_Reader_readRuns_62 rfl ?_
        refine gf_Reader_15 C 0 (v := .ref (a 0)) rfl rfl d_Reader_readRuns_63 ?_
        refine gf_Reader_118 C 4 (v := .ref (a 1)) rfl rfl d_Reader_readRuns_66 ?_
        refine j_iload_n C 1 d_Reader_readRuns_69 rfl ?_
        obtain ⟨b1, h⟩ := gd_ok h
        refine j_aald C 5 (t0 := 2) rfl rfl b1 d_Reader_readRuns_70 ?_
        refine j_iload C 5 d_Reader_readRuns_71 rfl ?_
        refine j_iload C 4 d_Reader_readRuns_73 rfl ?_
        obtain ⟨b2, h⟩ := gd_ok h
        refine j_iast C (6 + v1.toNatClampNeg) (wRd cI cR o0 hh b q a n B pl rf hd (Ls L v1.toNatClampNeg v6.toNatClampNeg v5)) (t0 := 0) (co_4 (P := fun k => (wRd cI cR o0 hh b q a n B pl rf hd L)[6 + k]? = some (a (2 + k), .inl (cI, n, .inl (L.2 k)))) rfl rfl rfl rfl (in_lt b1)) (co_4 (P := fun k => (wRd cI cR o0 hh b q a n B pl rf hd L).set (6 + k) (a (2 + k), .inl (cI, n, .inl (upd (L.2 k) v6.toNatClampNeg v5))) = wRd cI cR o0 hh b q a n B pl rf hd (Ls L k v6.toNatClampNeg v5)) rfl rfl rfl rfl (in_lt b1)) rfl b2 d_Reader_readRuns_75 ?_
        refine j_iinc C [(4, .int (v4 + (-1))), (0, .ref o0), (1, .int v1), (3, .int v3), (5, .int v5), (6, .int v6)] 3 (v4 + (-1)) d_Reader_readRuns_76 rfl rfl (by decide) rfl ?_
        refine j_iinc C [(6, .int (v6 + 1)), (4, .int (v4 + (-1))), (0, .ref o0), (1, .int v1), (3, .int v3), (5, .int v5)] 5 (v6 + 1) d_Reader_readRuns_79 rfl rfl (by decide) rfl ?_
        refine j_goto C 9 d_Reader_readRuns_82 (by decide) ?_
        refine j_sub [2, 3, 4, 1, 5, 0] rfl ?_
        exact ih (v4 + (-1)) v5 (v6 + 1) pl rf (Ls L v1.toNatClampNeg v6.toNatClampNeg v5) h x0 x1
      · replace h := (if_pos c12).symm.trans h
        refine j_aload_n C 0 d_Reader_readRuns_20 rfl ?_
        refine j_iconst C (v := 1) d_Reader_readRuns_21 (by decide) ?_
        refine j_sipush C (v := 255) d_Reader_readRuns_22 (by decide) ?_
        refine j_iload_n C 2 d_Reader_readRuns_25 rfl ?_
        refine j_iload C 5 d_Reader_readRuns_26 rfl ?_
        refine j_isub C d_Reader_readRuns_28 ?_
        refine j_mmin C mw_Reader_110 (Nat.le_of_ble_eq_true rfl) (Nat.le_of_ble_eq_true rfl) (by decide) d_Reader_readRuns_29 ?_
        obtain ⟨r3, hr3, h⟩ := bd_ok h
        refine j_IV C [.int 1, .int (mn 255 (v3 - v6))] hA 0 rfl rfl (c_Reader_take l D cI cR cZ o0 hh b q a n B pl rf hd L 1 (mn 255 (v3 - v6)) hr3) (cw_Reader_65 C ⟨Nat.le_of_ble_eq_true rfl, Nat.le_of_ble_eq_true rfl⟩) [0, 1, 2, 3, 4, 5, 6, 7, 8, 9, 10, 11, 12] [] rfl rfl (by decide) (by decide) (by decide) rfl rfl (Nat.le_of_ble_eq_true rfl) d_Reader_readRuns_32 (by decide) (fun _ => ?_)
        refine j_ws (ws' := wRd cI cR o0 hh b q a n B r3.2.1 r3.2.2 hd L) rfl ?_
        refine j_istore C [(4, .int r3.1), (0, .ref o0), (1, .int v1), (3, .int v3), (5, .int v5), (6, .int v6)] d_Reader_readRuns_35 (by decide) rfl ?_
        refine j_iload C 0 d_Reader_readRuns_37 rfl ?_
        refine j_iconst C (v := (-1)) d_Reader_readRuns_39 (by decide) ?_
        refine j_icmp_ne C 47 d_Reader_readRuns_40 (by decide) (fun c11 => ?_) (fun c11 => ?_)
        · replace h := (if_neg c11).symm.trans h
          refine j_aload_n C 1 d_Reader_readRuns_47 rfl ?_
          refine j_iload_n C 2 d_Reader_readRuns_48 rfl ?_
          obtain ⟨r4, hr4, h⟩ := bd_ok h
          refine j_IV C [.int v1] hA 0 rfl rfl (c_Reader_takeValue l D cI cR cZ o0 hh b q a n B r3.2.1 r3.2.2 hd L v1 hr4) (cw_Reader_115 C ⟨Nat.le_of_ble_eq_true rfl, Nat.le_of_ble_eq_true rfl⟩) [0, 1, 2, 3, 4, 5, 6, 7, 8, 9, 10, 11, 12] [] rfl rfl (by decide) (by decide) (by decide) rfl rfl (Nat.le_of_ble_eq_true rfl) d_Reader_readRuns_49 (by decide) (fun _ => ?_)
          refine j_ws (ws' := wRd cI cR o0 hh b q a n B r4.2.1 r4.2.2 hd L) rfl ?_
          refine j_istore C [(5, .int r4.1), (4, .int r3.1), (0, .ref o0), (1, .int v1), (3, .int v3), (6, .int v6)] d_Reader_readRuns_52 (by decide) rfl ?_
          refine j_iload C 0 d_Reader_readRuns_54 rfl ?_
          refine j_iconst C (v := (-1)) d_Reader_readRuns_56 (by decide) ?_
          refine j_icmp_ne C 62 d_Reader_readRuns_57 (by decide) (fun c7 => ?_) (fun c7 => ?_)
          · replace h := (if_neg c7).symm.trans h
            refine j_aload_n C 2 d_Reader_readRuns_62 rfl ?_
            refine gf_Reader_15 C 0 (v := .ref (a 0)) rfl rfl d_Reader_readRuns_63 ?_
            refine gf_Reader_118 C 4 (v := .ref (a 1)) rfl rfl d_Reader_readRuns_66 ?_
            refine j_iload_n C 3 d_Reader_readRuns_69 rfl ?_
            obtain ⟨b5, h⟩ := gd_ok h
            refine j_aald C 5 (t0 := 2) rfl rfl b5 d_Reader_readRuns_70 ?_
            refine j_iload C 5 d_Reader_readRuns_71 rfl ?_
            refine j_iload C 0 d_Reader_readRuns_73 rfl ?_
            obtain ⟨b6, h⟩ := gd_ok h
            refine j_iast C (6 + v1.toNatClampNeg) (wRd cI cR o0 hh b q a n B r4.2.1 r4.2.2 hd (Ls L v1.toNatClampNeg v6.toNatClampNeg r4.1)) (t0 := 0) (co_4 (P := fun k => (wRd cI cR o0 hh b q a n B r4.2.1 r4.2.2 hd L)[6 + k]? = some (a (2 + k), .inl (cI, n, .inl (L.2 k)))) rfl rfl rfl rfl (in_lt b5)) (co_4 (P := fun k => (wRd cI cR o0 hh b q a n B r4.2.1 r4.2.2 hd L).set (6 + k) (a (2 + k), .inl (cI, n, .inl (upd (L.2 k) v6.toNatClampNeg r4.1))) = wRd cI cR o0 hh b q a n B r4.2.1 r4.2.2 hd (Ls L k v6.toNatClampNeg r4.1)) rfl rfl rfl rfl (in_lt b5)) rfl b6 d_Reader_readRuns_75 ?_
            refine j_iinc C [(4, .int (r3.1 + (-1))), (5, .int r4.1), (0, .ref o0), (1, .int v1), (3, .int v3), (6, .int v6)] 1 (r3.1 + (-1)) d_Reader_readRuns_76 rfl rfl (by decide) rfl ?_
            refine j_iinc C [(6, .int (v6 + 1)), (4, .int (r3.1 + (-1))), (5, .int r4.1), (0, .ref o0), (1, .int v1), (3, .int v3)] 5 (v6 + 1) d_Reader_readRuns_79 rfl rfl (by decide) rfl ?_
            refine j_goto C 9 d_Reader_readRuns_82 (by decide) ?_
            refine j_sub [3, 4, 5, 1, 2, 0] rfl ?_
            exact ih (r3.1 + (-1)) r4.1 (v6 + 1) r4.2.1 r4.2.2 (Ls L v1.toNatClampNeg v6.toNatClampNeg r4.1) h x0 x1
          · replace h := (if_pos c7).symm.trans h
            obtain rfl := Option.some.inj h
            refine j_sub [] rfl ?_
            exact x1 rfl
        · replace h := (if_pos c11).symm.trans h
          refine j_iconst C (v := (-1)) d_Reader_readRuns_43 (by decide) ?_
          refine j_goto C 52 d_Reader_readRuns_44 (by decide) ?_
          refine j_istore C [(5, .int ((-1))), (4, .int r3.1), (0, .ref o0), (1, .int v1), (3, .int v3), (6, .int v6)] d_Reader_readRuns_52 (by decide) rfl ?_
          refine j_iload C 0 d_Reader_readRuns_54 rfl ?_
          refine j_iconst C (v := (-1)) d_Reader_readRuns_56 (by decide) ?_
          refine j_icmp_ne C 62 d_Reader_readRuns_57 (by decide) (fun c10 => ?_) (fun c10 => ?_)
          · replace h := (if_neg c10).symm.trans h
            refine j_aload_n C 2 d_Reader_readRuns_62 rfl ?_
            refine gf_Reader_15 C 0 (v := .ref (a 0)) rfl rfl d_Reader_readRuns_63 ?_
            refine gf_Reader_118 C 4 (v := .ref (a 1)) rfl rfl d_Reader_readRuns_66 ?_
            refine j_iload_n C 3 d_Reader_readRuns_69 rfl ?_
            obtain ⟨b8, h⟩ := gd_ok h
            refine j_aald C 5 (t0 := 2) rfl rfl b8 d_Reader_readRuns_70 ?_
            refine j_iload C 5 d_Reader_readRuns_71 rfl ?_
            refine j_iload C 0 d_Reader_readRuns_73 rfl ?_
            obtain ⟨b9, h⟩ := gd_ok h
            refine j_iast C (6 + v1.toNatClampNeg) (wRd cI cR o0 hh b q a n B r3.2.1 r3.2.2 hd (Ls L v1.toNatClampNeg v6.toNatClampNeg ((-1)))) (t0 := 0) (co_4 (P := fun k => (wRd cI cR o0 hh b q a n B r3.2.1 r3.2.2 hd L)[6 + k]? = some (a (2 + k), .inl (cI, n, .inl (L.2 k)))) rfl rfl rfl rfl (in_lt b8)) (co_4 (P := fun k => (wRd cI cR o0 hh b q a n B r3.2.1 r3.2.2 hd L).set (6 + k) (a (2 + k), .inl (cI, n, .inl (upd (L.2 k) v6.toNatClampNeg ((-1))))) = wRd cI cR o0 hh b q a n B r3.2.1 r3.2.2 hd (Ls L k v6.toNatClampNeg ((-1)))) rfl rfl rfl rfl (in_lt b8)) rfl b9 d_Reader_readRuns_75 ?_
            refine j_iinc C [(4, .int (r3.1 + (-1))), (5, .int ((-1))), (0, .ref o0), (1, .int v1), (3, .int v3), (6, .int v6)] 1 (r3.1 + (-1)) d_Reader_readRuns_76 rfl rfl (by decide) rfl ?_
            refine j_iinc C [(6, .int (v6 + 1)), (4, .int (r3.1 + (-1))), (5, .int ((-1))), (0, .ref o0), (1, .int v1), (3, .int v3)] 5 (v6 + 1) d_Reader_readRuns_79 rfl rfl (by decide) rfl ?_
            refine j_goto C 9 d_Reader_readRuns_82 (by decide) ?_
            refine j_sub [3, 4, 5, 1, 2, 0] rfl ?_
            exact ih (r3.1 + (-1)) ((-1)) (v6 + 1) r3.2.1 r3.2.2 (Ls L v1.toNatClampNeg v6.toNatClampNeg ((-1))) h x0 x1
          · replace h := (if_pos c10).symm.trans h
            obtain rfl := Option.some.inj h
            refine j_sub [] rfl ?_
            exact x1 rfl
set_option maxRecDepth 100000 in
set_option maxHeartbeats 4000000 in
theorem c_Reader_readRuns (l : Launch) (D : va_G) (cI cR cZ : ClassId) (fu : Nat) (o0 : Nat) (hh : Nat) (b : Nat) (q : Nat) (a : (Nat → Nat)) (n : Nat) (B : ByS) (pl : Int32) (rf : Int32) (hd : (Nat → Int32)) (L : LyS) (p1 : Int32) (p2 : Int32) (p3 : Int32) {res : (Int32 × Int32 × Int32 × LyS)} (h : Reader_readRuns fu n B pl rf hd L p1 p2 p3 = some res) (sz : Nat) : Met l y_Reader_readRuns (Cond.code y_Reader_readRuns b_Reader_readRuns 7 (some .boolean) :: BIG) rm_Reader_readRuns (PcI [.ref o0, .int p1, .int p2, .int p3] D (tyG cI cR cZ) (wRd cI cR o0 hh b q a n B pl rf hd L) sz) (QcI D res.1 (fun _ : Nat => wRd cI cR o0 hh b q a n B res.2.1 res.2.2.1 hd res.2.2.2) (va_A (wRd cI cR o0 hh b q a n B pl rf hd L) sz)) 0 0 (va_A (wRd cI cR o0 hh b q a n B pl rf hd L) sz) := by
  refine met_I (by decide) (Nat.le_of_ble_eq_true rfl) (fun p e s m args below meth c A hA C hr => ?_)
  have C : Cx p s m args meth c D (tyG cI cR cZ) b_Reader_readRuns 7 "MaskLayers$Reader" := C
  have hr : meth.sig.returnType = some .boolean := hr
  show J p l e rm_Reader_readRuns s m args below meth c D A (va_D A) 7 (MQ below (QcI D res.1 (fun _ : Nat => wRd cI cR o0 hh b q a n B res.2.1 res.2.2.1 hd res.2.2.2) A) args s 0 0 A) 0 0 (wRd cI cR o0 hh b q a n B pl rf hd L) [(0, .ref o0), (1, .int p1), (2, .int p2), (3, .int p3)] [] 0
  unfold Reader_readRuns at h
  refine j_iconst C (v := 0) d_Reader_readRuns_0 (by decide) ?_
  refine j_istore C [(4, .int 0), (0, .ref o0), (1, .int p1), (2, .int p2), (3, .int p3)] d_Reader_readRuns_1 (by decide) rfl ?_
  refine j_iconst C (v := (-1)) d_Reader_readRuns_3 (by decide) ?_
  refine j_istore C [(5, .int ((-1))), (4, .int 0), (0, .ref o0), (1, .int p1), (2, .int p2), (3, .int p3)] d_Reader_readRuns_4 (by decide) rfl ?_
  refine j_iload_n C 4 d_Reader_readRuns_6 rfl ?_
  refine j_istore C [(6, .int p2), (5, .int ((-1))), (4, .int 0), (0, .ref o0), (1, .int p1), (2, .int p2), (3, .int p3)] d_Reader_readRuns_7 (by decide) rfl ?_
  obtain ⟨r14, hr14, h⟩ := bd_ok h
  refine j_sub [3, 4, 6, 2, 1, 0] rfl ?_
  refine t_Reader_readRuns_l9 C hA fu 0 ((-1)) p2 pl rf L hr14 (fun e17 => ?_) (fun e18 => ?_)
  · replace h := (if_pos e17).symm.trans h
    refine j_iconst C (v := 1) d_Reader_readRuns_85 (by decide) ?_
    obtain ⟨b15, h⟩ := zb_ok h
    obtain rfl := Option.some.inj h
    exact j_iretZ C hr d_Reader_readRuns_86 b15 0 rfl
  · replace h := (if_neg (by rw [e18]; decide)).symm.trans h
    refine j_iconst C (v := 0) d_Reader_readRuns_60 (by decide) ?_
    obtain ⟨b16, h⟩ := zb_ok h
    obtain rfl := Option.some.inj h
    exact j_iretZ C hr d_Reader_readRuns_61 b16 0 rfl
end
section
def Reader_readLayer_b157 (fu : Nat) (n : Nat) (B : ByS) (pl : Int32) (rf : Int32) (hd : (Nat → Int32)) (L : LyS) (v1 : Int32) (v2 : Int32) (v6 : Int32) (v9 : Int32) (s0 : Int32) : Option (Int32 × Int32 × Int32 × LyS) :=
  (if s0 = 0 then zb 0 (some (0, pl, rf, L))
  else (if ((pl - v6) - 2) = v9 then (Layers_add n L v1 v2).bind fun r7 =>
  zb 1 (some (1, pl, rf, r7))
  else (Reader_refuse n B pl rf hd L v6).bind fun r9 =>
  zb r9.1 (some (r9.1, pl, r9.2, L))))
def Reader_readLayer_b117 (fu : Nat) (n : Nat) (B : ByS) (pl : Int32) (rf : Int32) (hd : (Nat → Int32)) (L : LyS) (v1 : Int32) (v2 : Int32) (v3 : Int32) (v4 : Int32) (v5 : Int32) (v6 : Int32) (v9 : Int32) : Option (Int32 × Int32 × Int32 × LyS) :=
  (if v5 = 1 then (Reader_readRuns fu n B pl rf hd L v2 v3 v4).bind fun r16 =>
  Reader_readLayer_b157 fu n B r16.2.1 r16.2.2.1 hd r16.2.2.2 v1 v2 v6 v9 r16.1
  else (if v2 = 1 then (Reader_readBits fu n B pl rf hd L v3 v4).bind fun r14 =>
  Reader_readLayer_b157 fu n B r14.2.1 r14.2.2.1 hd r14.2.2.2 v1 v2 v6 v9 r14.1
  else (Reader_readColours fu n B pl rf hd L v2 v3 v4).bind fun r6 =>
  Reader_readLayer_b157 fu n B r6.2.1 r6.2.2.1 hd r6.2.2.2 v1 v2 v6 v9 r6.1))
def Reader_readLayer_b72 (fu : Nat) (n : Nat) (B : ByS) (pl : Int32) (rf : Int32) (hd : (Nat → Int32)) (L : LyS) (v1 : Int32) (v2 : Int32) (v3 : Int32) (v4 : Int32) (v5 : Int32) (v6 : Int32) (v7 : Int32) (s0 : Int32) : Option (Int32 × Int32 × Int32 × LyS) :=
  (if s0 = ((-1)) then zb 0 (some (0, pl, rf, L))
  else (if v5 = 0 then (ML_plainBytes v2 (v4 - v3)).bind fun r18 =>
  (if ((s0 <<< ((8 : Int32) &&& 31)) ||| v7) = r18 then Reader_readLayer_b117 fu n B pl rf hd L v1 v2 v3 v4 v5 v6 ((s0 <<< ((8 : Int32) &&& 31)) ||| v7)
  else (Reader_refuse n B pl rf hd L v6).bind fun r19 =>
  zb r19.1 (some (r19.1, pl, r19.2, L)))
  else Reader_readLayer_b117 fu n B pl rf hd L v1 v2 v3 v4 v5 v6 ((s0 <<< ((8 : Int32) &&& 31)) ||| v7)))
def Reader_readLayer_b52 (fu : Nat) (n : Nat) (B : ByS) (pl : Int32) (rf : Int32) (hd : (Nat → Int32)) (L : LyS) (v1 : Int32) (v2 : Int32) (v3 : Int32) (v4 : Int32) (v5 : Int32) (v6 : Int32) (s0 : Int32) : Option (Int32 × Int32 × Int32 × LyS) :=
  (if s0 = ((-1)) then Reader_readLayer_b72 fu n B pl rf hd L v1 v2 v3 v4 v5 v6 s0 ((-1))
  else (Reader_take n B pl rf hd L 0 255).bind fun r5 =>
  Reader_readLayer_b72 fu n B r5.2.1 r5.2.2 hd L v1 v2 v3 v4 v5 v6 s0 r5.1)
def Reader_readLayer (fu : Nat) (n : Nat) (B : ByS) (pl : Int32) (rf : Int32) (hd : (Nat → Int32)) (L : LyS) (p1 : Int32) (p2 : Int32) : Option (Int32 × Int32 × Int32 × LyS) :=
  (Layers_startOf n L p1).bind fun r1 =>
  (Layers_endOf n L p1 p2).bind fun r2 =>
  (Reader_take n B pl rf hd L 0 1).bind fun r3 =>
  (if r3.1 = ((-1)) then Reader_readLayer_b52 fu n B r3.2.1 r3.2.2 hd L p1 p2 r1 r2 r3.1 r3.2.1 ((-1))
  else (Reader_take n B r3.2.1 r3.2.2 hd L 0 255).bind fun r4 =>
  Reader_readLayer_b52 fu n B r4.2.1 r4.2.2 hd L p1 p2 r1 r2 r3.1 r3.2.1 r4.1)
set_option maxRecDepth 100000 in
set_option maxHeartbeats 4000000 in
theorem t_Reader_readLayer_b157 {p : Program} {l : Launch} {e : Env} {s : State} {m : MethodId} {args : Array Value} {below : List Frame} {meth : Method} {c : Code} {D : va_G} {cI cR cZ : ClassId} {A : Nat → Prop} (C : Cx p s m args meth c D (tyG cI cR cZ) b_Reader_readLayer 11 "MaskLayers$Reader") (hr : meth.sig.returnType = some .boolean) (hA : ∀ q : Nat, s.heap.size ≤ q → A q) {o0 : Nat} {hh : Nat} {b : Nat} {q : Nat} {a : (Nat → Nat)} {n : Nat} {B : ByS} {pl : Int32} {rf : Int32} {hd : (Nat → Int32)} {L : LyS} {fu : Nat} {v1 : Int32} {v2 : Int32} {v6 : Int32} {v9 : Int32} {s0 : Int32} {res : (Int32 × Int32 × Int32 × LyS)} (h : Reader_readLayer_b157 fu n B pl rf hd L v1 v2 v6 v9 s0 = some res) : J p l e rm_Reader_readLayer s m args below meth c D A (va_D A) 11 (MQ below (QcI D res.1 (fun _ : Nat => wRd cI cR o0 hh b q a n B res.2.1 res.2.2.1 hd res.2.2.2) A) args s 0 0 A) 0 0 (wRd cI cR o0 hh b q a n B pl rf hd L) [(0, .ref o0), (1, .int v1), (2, .int v2), (6, .int v6), (9, .int v9)] [.int s0] 157 := by
  unfold Reader_readLayer_b157 at h
  refine j_istore C [(10, .int s0), (0, .ref o0), (1, .int v1), (2, .int v2), (6, .int v6), (9, .int v9)] d_Reader_readLayer_157 (by decide) rfl ?_
  refine j_iload C 0 d_Reader_readLayer_159 rfl ?_
  refine j_if_ne C 166 d_Reader_readLayer_161 (by decide) (fun c13 => ?_) (fun c13 => ?_)
  · replace h := (if_neg c13).symm.trans h
    refine j_aload_n C 1 d_Reader_readLayer_166 rfl ?_
    refine gf_Reader_26 C 0 (v := .int pl) rfl rfl d_Reader_readLayer_167 ?_
    refine j_iload C 4 d_Reader_readLayer_170 rfl ?_
    refine j_isub C d_Reader_readLayer_172 ?_
    refine j_iconst C (v := 2) d_Reader_readLayer_173 (by decide) ?_
    refine j_isub C d_Reader_readLayer_174 ?_
    refine j_iload C 5 d_Reader_readLayer_175 rfl ?_
    refine j_icmp_eq C 187 d_Reader_readLayer_177 (by decide) (fun c11 => ?_) (fun c11 => ?_)
    · replace h := (if_pos c11).symm.trans h
      refine j_aload_n C 1 d_Reader_readLayer_187 rfl ?_
      refine gf_Reader_15 C 0 (v := .ref (a 0)) rfl rfl d_Reader_readLayer_188 ?_
      refine j_iload_n C 2 d_Reader_readLayer_191 rfl ?_
      refine j_iload_n C 3 d_Reader_readLayer_192 rfl ?_
      obtain ⟨r7, hr7, h⟩ := bd_ok h
      refine j_VV C [.int v1, .int v2] hA 4 rfl rfl (c_Layers_add l D cI cR cZ a n L v1 v2 hr7) (cw_Reader_106 C ⟨Nat.le_of_ble_eq_true rfl, Nat.le_of_ble_eq_true rfl⟩) [4, 5, 6, 7, 8, 9, 10, 11, 12] [0, 1, 2, 3] rfl rfl (by decide) (by decide) (by decide) rfl rfl (Nat.le_of_ble_eq_true rfl) d_Reader_readLayer_193 (by decide) (fun _ => ?_)
      refine j_ws (ws' := wRd cI cR o0 hh b q a n B pl rf hd r7) rfl ?_
      refine j_iconst C (v := 1) d_Reader_readLayer_196 (by decide) ?_
      obtain ⟨b8, h⟩ := zb_ok h
      obtain rfl := Option.some.inj h
      exact j_iretZ C hr d_Reader_readLayer_197 b8 0 rfl
    · replace h := (if_neg c11).symm.trans h
      refine j_aload_n C 1 d_Reader_readLayer_180 rfl ?_
      refine j_iload C 4 d_Reader_readLayer_181 rfl ?_
      obtain ⟨r9, hr9, h⟩ := bd_ok h
      refine j_IV C [.int v6] hA 0 rfl rfl (c_Reader_refuse l D cI cR cZ o0 hh b q a n B pl rf hd L v6 hr9) (cw_Reader_52 C ⟨Nat.le_of_ble_eq_true rfl, Nat.le_of_ble_eq_true rfl⟩) [0, 1, 2, 3, 4, 5, 6, 7, 8, 9, 10, 11, 12] [] rfl rfl (by decide) (by decide) (by decide) rfl rfl (Nat.le_of_ble_eq_true rfl) d_Reader_readLayer_183 (by decide) (fun _ => ?_)
      refine j_ws (ws' := wRd cI cR o0 hh b q a n B pl r9.2 hd L) rfl ?_
      obtain ⟨b10, h⟩ := zb_ok h
      obtain rfl := Option.some.inj h
      exact j_iretZ C hr d_Reader_readLayer_186 b10 0 rfl
  · replace h := (if_pos c13).symm.trans h
    refine j_iconst C (v := 0) d_Reader_readLayer_164 (by decide) ?_
    obtain ⟨b12, h⟩ := zb_ok h
    obtain rfl := Option.some.inj h
    exact j_iretZ C hr d_Reader_readLayer_165 b12 0 rfl
set_option maxRecDepth 100000 in
set_option maxHeartbeats 4000000 in
theorem t_Reader_readLayer_b117 {p : Program} {l : Launch} {e : Env} {s : State} {m : MethodId} {args : Array Value} {below : List Frame} {meth : Method} {c : Code} {D : va_G} {cI cR cZ : ClassId} {A : Nat → Prop} (C : Cx p s m args meth c D (tyG cI cR cZ) b_Reader_readLayer 11 "MaskLayers$Reader") (hr : meth.sig.returnType = some .boolean) (hA : ∀ q : Nat, s.heap.size ≤ q → A q) {o0 : Nat} {hh : Nat} {b : Nat} {q : Nat} {a : (Nat → Nat)} {n : Nat} {B : ByS} {pl : Int32} {rf : Int32} {hd : (Nat → Int32)} {L : LyS} {fu : Nat} {v1 : Int32} {v2 : Int32} {v3 : Int32} {v4 : Int32} {v5 : Int32} {v6 : Int32} {v9 : Int32} {res : (Int32 × Int32 × Int32 × LyS)} (h : Reader_readLayer_b117 fu n B pl rf hd L v1 v2 v3 v4 v5 v6 v9 = some res) : J p l e rm_Reader_readLayer s m args below meth c D A (va_D A) 11 (MQ below (QcI D res.1 (fun _ : Nat => wRd cI cR o0 hh b q a n B res.2.1 res.2.2.1 hd res.2.2.2) A) args s 0 0 A) 0 0 (wRd cI cR o0 hh b q a n B pl rf hd L) [(0, .ref o0), (1, .int v1), (2, .int v2), (3, .int v3), (4, .int v4), (5, .int v5), (6, .int v6), (9, .int v9)] [] 117 := by
  unfold Reader_readLayer_b117 at h
  refine j_iload C 5 d_Reader_readLayer_117 rfl ?_
  refine j_iconst C (v := 1) d_Reader_readLayer_119 (by decide) ?_
  refine j_icmp_ne C 134 d_Reader_readLayer_120 (by decide) (fun c17 => ?_) (fun c17 => ?_)
  · replace h := (if_neg c17).symm.trans h
    refine j_iload_n C 2 d_Reader_readLayer_134 rfl ?_
    refine j_iconst C (v := 1) d_Reader_readLayer_135 (by decide) ?_
    refine j_icmp_ne C 149 d_Reader_readLayer_136 (by decide) (fun c15 => ?_) (fun c15 => ?_)
    · replace h := (if_neg c15).symm.trans h
      refine j_aload_n C 0 d_Reader_readLayer_149 rfl ?_
      refine j_iload_n C 2 d_Reader_readLayer_150 rfl ?_
      refine j_iload_n C 3 d_Reader_readLayer_151 rfl ?_
      refine j_iload C 4 d_Reader_readLayer_152 rfl ?_
      obtain ⟨r6, hr6, h⟩ := bd_ok h
      refine j_IV C [.int v2, .int v3, .int v4] hA 0 rfl rfl (c_Reader_readColours l D cI cR cZ fu o0 hh b q a n B pl rf hd L v2 v3 v4 hr6) (cw_Reader_103 C ⟨Nat.le_of_ble_eq_true rfl, Nat.le_of_ble_eq_true rfl⟩) [0, 1, 2, 3, 4, 5, 6, 7, 8, 9, 10, 11, 12] [] rfl rfl (by decide) (by decide) (by decide) rfl rfl (Nat.le_of_ble_eq_true rfl) d_Reader_readLayer_154 (by decide) (fun _ => ?_)
      refine j_ws (ws' := wRd cI cR o0 hh b q a n B r6.2.1 r6.2.2.1 hd r6.2.2.2) rfl ?_
      refine j_sub [0, 1, 2, 6, 7] rfl ?_
      exact t_Reader_readLayer_b157 C hr hA h
    · replace h := (if_pos c15).symm.trans h
      refine j_aload_n C 0 d_Reader_readLayer_139 rfl ?_
      refine j_iload_n C 3 d_Reader_readLayer_140 rfl ?_
      refine j_iload C 4 d_Reader_readLayer_141 rfl ?_
      obtain ⟨r14, hr14, h⟩ := bd_ok h
      refine j_IV C [.int v3, .int v4] hA 0 rfl rfl (c_Reader_readBits l D cI cR cZ fu o0 hh b q a n B pl rf hd L v3 v4 hr14) (cw_Reader_100 C ⟨Nat.le_of_ble_eq_true rfl, Nat.le_of_ble_eq_true rfl⟩) [0, 1, 2, 3, 4, 5, 6, 7, 8, 9, 10, 11, 12] [] rfl rfl (by decide) (by decide) (by decide) rfl rfl (Nat.le_of_ble_eq_true rfl) d_Reader_readLayer_143 (by decide) (fun _ => ?_)
      refine j_ws (ws' := wRd cI cR o0 hh b q a n B r14.2.1 r14.2.2.1 hd r14.2.2.2) rfl ?_
      refine j_goto C 157 d_Reader_readLayer_146 (by decide) ?_
      refine j_sub [0, 1, 2, 6, 7] rfl ?_
      exact t_Reader_readLayer_b157 C hr hA h
  · replace h := (if_pos c17).symm.trans h
    refine j_aload_n C 0 d_Reader_readLayer_123 rfl ?_
    refine j_iload_n C 2 d_Reader_readLayer_124 rfl ?_
    refine j_iload_n C 3 d_Reader_readLayer_125 rfl ?_
    refine j_iload C 4 d_Reader_readLayer_126 rfl ?_
    obtain ⟨r16, hr16, h⟩ := bd_ok h
    refine j_IV C [.int v2, .int v3, .int v4] hA 0 rfl rfl (c_Reader_readRuns l D cI cR cZ fu o0 hh b q a n B pl rf hd L v2 v3 v4 hr16) (cw_Reader_96 C ⟨Nat.le_of_ble_eq_true rfl, Nat.le_of_ble_eq_true rfl⟩) [0, 1, 2, 3, 4, 5, 6, 7, 8, 9, 10, 11, 12] [] rfl rfl (by decide) (by decide) (by decide) rfl rfl (Nat.le_of_ble_eq_true rfl) d_Reader_readLayer_128 (by decide) (fun _ => ?_)
    refine j_ws (ws' := wRd cI cR o0 hh b q a n B r16.2.1 r16.2.2.1 hd r16.2.2.2) rfl ?_
    refine j_goto C 157 d_Reader_readLayer_131 (by decide) ?_
    refine j_sub [0, 1, 2, 6, 7] rfl ?_
    exact t_Reader_readLayer_b157 C hr hA h
set_option maxRecDepth 100000 in
set_option maxHeartbeats 4000000 in
theorem t_Reader_readLayer_b72 {p : Program} {l : Launch} {e : Env} {s : State} {m : MethodId} {args : Array Value} {below : List Frame} {meth : Method} {c : Code} {D : va_G} {cI cR cZ : ClassId} {A : Nat → Prop} (C : Cx p s m args meth c D (tyG cI cR cZ) b_Reader_readLayer 11 "MaskLayers$Reader") (hr : meth.sig.returnType = some .boolean) (hA : ∀ q : Nat, s.heap.size ≤ q → A q) {o0 : Nat} {hh : Nat} {b : Nat} {q : Nat} {a : (Nat → Nat)} {n : Nat} {B : ByS} {pl : Int32} {rf : Int32} {hd : (Nat → Int32)} {L : LyS} {fu : Nat} {v1 : Int32} {v2 : Int32} {v3 : Int32} {v4 : Int32} {v5 : Int32} {v6 : Int32} {v7 : Int32} {s0 : Int32} {res : (Int32 × Int32 × Int32 × LyS)} (h : Reader_readLayer_b72 fu n B pl rf hd L v1 v2 v3 v4 v5 v6 v7 s0 = some res) : J p l e rm_Reader_readLayer s m args below meth c D A (va_D A) 11 (MQ below (QcI D res.1 (fun _ : Nat => wRd cI cR o0 hh b q a n B res.2.1 res.2.2.1 hd res.2.2.2) A) args s 0 0 A) 0 0 (wRd cI cR o0 hh b q a n B pl rf hd L) [(0, .ref o0), (1, .int v1), (2, .int v2), (3, .int v3), (4, .int v4), (5, .int v5), (6, .int v6), (7, .int v7)] [.int s0] 72 := by
  unfold Reader_readLayer_b72 at h
  refine j_istore C [(8, .int s0), (0, .ref o0), (1, .int v1), (2, .int v2), (3, .int v3), (4, .int v4), (5, .int v5), (6, .int v6), (7, .int v7)] d_Reader_readLayer_72 (by decide) rfl ?_
  refine j_iload C 0 d_Reader_readLayer_74 rfl ?_
  refine j_iconst C (v := (-1)) d_Reader_readLayer_76 (by decide) ?_
  refine j_icmp_ne C 82 d_Reader_readLayer_77 (by decide) (fun c24 => ?_) (fun c24 => ?_)
  · replace h := (if_neg c24).symm.trans h
    refine j_iload C 0 d_Reader_readLayer_82 rfl ?_
    refine j_bipush C (v := 8) d_Reader_readLayer_84 (by decide) ?_
    refine j_ishl C d_Reader_readLayer_86 ?_
    refine j_iload C 8 d_Reader_readLayer_87 rfl ?_
    refine j_ior C d_Reader_readLayer_89 ?_
    refine j_istore C [(9, .int ((s0 <<< ((8 : Int32) &&& 31)) ||| v7)), (8, .int s0), (0, .ref o0), (1, .int v1), (2, .int v2), (3, .int v3), (4, .int v4), (5, .int v5), (6, .int v6), (7, .int v7)] d_Reader_readLayer_90 (by decide) rfl ?_
    refine j_iload C 7 d_Reader_readLayer_92 rfl ?_
    refine j_if_ne C 117 d_Reader_readLayer_94 (by decide) (fun c22 => ?_) (fun c22 => ?_)
    · replace h := (if_neg c22).symm.trans h
      refine j_sub [2, 3, 4, 5, 6, 7, 8, 0] rfl ?_
      exact t_Reader_readLayer_b117 C hr hA h
    · replace h := (if_pos c22).symm.trans h
      refine j_iload C 0 d_Reader_readLayer_97 rfl ?_
      refine j_iload_n C 4 d_Reader_readLayer_99 rfl ?_
      refine j_iload C 6 d_Reader_readLayer_100 rfl ?_
      refine j_iload_n C 5 d_Reader_readLayer_102 rfl ?_
      refine j_isub C d_Reader_readLayer_103 ?_
      obtain ⟨r18, hr18, h⟩ := bd_ok h
      refine j_PSN C [.int v2, .int (v4 - v3)] (c_ML_plainBytes l D cI cR cZ v2 (v4 - v3) hr18) (cw_Reader_93 C ⟨Nat.le_of_ble_eq_true rfl, Nat.le_of_ble_eq_true rfl⟩) [] rfl rfl rfl (Nat.le_of_ble_eq_true rfl) d_Reader_readLayer_104 (by decide) ?_
      refine j_icmp_eq C 117 d_Reader_readLayer_107 (by decide) (fun c21 => ?_) (fun c21 => ?_)
      · replace h := (if_pos c21).symm.trans h
        refine j_sub [2, 3, 4, 5, 6, 7, 8, 0] rfl ?_
        exact t_Reader_readLayer_b117 C hr hA h
      · replace h := (if_neg c21).symm.trans h
        refine j_aload_n C 2 d_Reader_readLayer_110 rfl ?_
        refine j_iload C 8 d_Reader_readLayer_111 rfl ?_
        obtain ⟨r19, hr19, h⟩ := bd_ok h
        refine j_IV C [.int v6] hA 0 rfl rfl (c_Reader_refuse l D cI cR cZ o0 hh b q a n B pl rf hd L v6 hr19) (cw_Reader_52 C ⟨Nat.le_of_ble_eq_true rfl, Nat.le_of_ble_eq_true rfl⟩) [0, 1, 2, 3, 4, 5, 6, 7, 8, 9, 10, 11, 12] [] rfl rfl (by decide) (by decide) (by decide) rfl rfl (Nat.le_of_ble_eq_true rfl) d_Reader_readLayer_113 (by decide) (fun _ => ?_)
        refine j_ws (ws' := wRd cI cR o0 hh b q a n B pl r19.2 hd L) rfl ?_
        obtain ⟨b20, h⟩ := zb_ok h
        obtain rfl := Option.some.inj h
        exact j_iretZ C hr d_Reader_readLayer_116 b20 0 rfl
  · replace h := (if_pos c24).symm.trans h
    refine j_iconst C (v := 0) d_Reader_readLayer_80 (by decide) ?_
    obtain ⟨b23, h⟩ := zb_ok h
    obtain rfl := Option.some.inj h
    exact j_iretZ C hr d_Reader_readLayer_81 b23 0 rfl
set_option maxRecDepth 100000 in
set_option maxHeartbeats 4000000 in
theorem t_Reader_readLayer_b52 {p : Program} {l : Launch} {e : Env} {s : State} {m : MethodId} {args : Array Value} {below : List Frame} {meth : Method} {c : Code} {D : va_G} {cI cR cZ : ClassId} {A : Nat → Prop} (C : Cx p s m args meth c D (tyG cI cR cZ) b_Reader_readLayer 11 "MaskLayers$Reader") (hr : meth.sig.returnType = some .boolean) (hA : ∀ q : Nat, s.heap.size ≤ q → A q) {o0 : Nat} {hh : Nat} {b : Nat} {q : Nat} {a : (Nat → Nat)} {n : Nat} {B : ByS} {pl : Int32} {rf : Int32} {hd : (Nat → Int32)} {L : LyS} {fu : Nat} {v1 : Int32} {v2 : Int32} {v3 : Int32} {v4 : Int32} {v5 : Int32} {v6 : Int32} {s0 : Int32} {res : (Int32 × Int32 × Int32 × LyS)} (h : Reader_readLayer_b52 fu n B pl rf hd L v1 v2 v3 v4 v5 v6 s0 = some res) : J p l e rm_Reader_readLayer s m args below meth c D A (va_D A) 11 (MQ below (QcI D res.1 (fun _ : Nat => wRd cI cR o0 hh b q a n B res.2.1 res.2.2.1 hd res.2.2.2) A) args s 0 0 A) 0 0 (wRd cI cR o0 hh b q a n B pl rf hd L) [(0, .ref o0), (1, .int v1), (2, .int v2), (3, .int v3), (4, .int v4), (5, .int v5), (6, .int v6)] [.int s0] 52 := by
  unfold Reader_readLayer_b52 at h
  refine j_istore C [(7, .int s0), (0, .ref o0), (1, .int v1), (2, .int v2), (3, .int v3), (4, .int v4), (5, .int v5), (6, .int v6)] d_Reader_readLayer_52 (by decide) rfl ?_
  refine j_iload C 0 d_Reader_readLayer_54 rfl ?_
  refine j_iconst C (v := (-1)) d_Reader_readLayer_56 (by decide) ?_
  refine j_icmp_ne C 64 d_Reader_readLayer_57 (by decide) (fun c25 => ?_) (fun c25 => ?_)
  · replace h := (if_neg c25).symm.trans h
    refine j_aload_n C 1 d_Reader_readLayer_64 rfl ?_
    refine j_iconst C (v := 0) d_Reader_readLayer_65 (by decide) ?_
    refine j_sipush C (v := 255) d_Reader_readLayer_66 (by decide) ?_
    obtain ⟨r5, hr5, h⟩ := bd_ok h
    refine j_IV C [.int 0, .int 255] hA 0 rfl rfl (c_Reader_take l D cI cR cZ o0 hh b q a n B pl rf hd L 0 255 hr5) (cw_Reader_65 C ⟨Nat.le_of_ble_eq_true rfl, Nat.le_of_ble_eq_true rfl⟩) [0, 1, 2, 3, 4, 5, 6, 7, 8, 9, 10, 11, 12] [] rfl rfl (by decide) (by decide) (by decide) rfl rfl (Nat.le_of_ble_eq_true rfl) d_Reader_readLayer_69 (by decide) (fun _ => ?_)
    refine j_ws (ws' := wRd cI cR o0 hh b q a n B r5.2.1 r5.2.2 hd L) rfl ?_
    refine j_sub [1, 2, 3, 4, 5, 6, 7, 0] rfl ?_
    exact t_Reader_readLayer_b72 C hr hA h
  · replace h := (if_pos c25).symm.trans h
    refine j_iconst C (v := (-1)) d_Reader_readLayer_60 (by decide) ?_
    refine j_goto C 72 d_Reader_readLayer_61 (by decide) ?_
    refine j_sub [1, 2, 3, 4, 5, 6, 7, 0] rfl ?_
    exact t_Reader_readLayer_b72 C hr hA h
set_option maxRecDepth 100000 in
set_option maxHeartbeats 4000000 in
theorem c_Reader_readLayer (l : Launch) (D : va_G) (cI cR cZ : ClassId) (fu : Nat) (o0 : Nat) (hh : Nat) (b : Nat) (q : Nat) (a : (Nat → Nat)) (n : Nat) (B : ByS) (pl : Int32) (rf : Int32) (hd : (Nat → Int32)) (L : LyS) (p1 : Int32) (p2 : Int32) {res : (Int32 × Int32 × Int32 × LyS)} (h : Reader_readLayer fu n B pl rf hd L p1 p2 = some res) (sz : Nat) : Met l y_Reader_readLayer (Cond.code y_Reader_readLayer b_Reader_readLayer 11 (some .boolean) :: BIG) rm_Reader_readLayer (PcI [.ref o0, .int p1, .int p2] D (tyG cI cR cZ) (wRd cI cR o0 hh b q a n B pl rf hd L) sz) (QcI D res.1 (fun _ : Nat => wRd cI cR o0 hh b q a n B res.2.1 res.2.2.1 hd res.2.2.2) (va_A (wRd cI cR o0 hh b q a n B pl rf hd L) sz)) 0 0 (va_A (wRd cI cR o0 hh b q a n B pl rf hd L) sz) := by
  refine met_I (by decide) (Nat.le_of_ble_eq_true rfl) (fun p e s m args below meth c A hA C hr => ?_)
  have C : Cx p s m args meth c D (tyG cI cR cZ) b_Reader_readLayer 11 "MaskLayers$Reader" := C
  have hr : meth.sig.returnType = some .boolean := hr
  show J p l e rm_Reader_readLayer s m args below meth c D A (va_D A) 11 (MQ below (QcI D res.1 (fun _ : Nat => wRd cI cR o0 hh b q a n B res.2.1 res.2.2.1 hd res.2.2.2) A) args s 0 0 A) 0 0 (wRd cI cR o0 hh b q a n B pl rf hd L) [(0, .ref o0), (1, .int p1), (2, .int p2)] [] 0
  unfold Reader_readLayer at h
  refine j_aload_n C 0 d_Reader_readLayer_0 rfl ?_
  refine gf_Reader_15 C 0 (v := .ref (a 0)) rfl rfl d_Reader_readLayer_1 ?_
  refine j_iload_n C 1 d_Reader_readLayer_4 rfl ?_
  obtain ⟨r1, hr1, h⟩ := bd_ok h
  refine j_PV C [.int p1] 4 rfl rfl (c_Layers_startOf l D cI cR cZ a n L p1 hr1) (cw_Reader_86 C ⟨Nat.le_of_ble_eq_true rfl, Nat.le_of_ble_eq_true rfl⟩) [4, 5, 6, 7, 8, 9, 10, 11, 12] rfl rfl rfl (Nat.le_of_ble_eq_true rfl) d_Reader_readLayer_5 (by decide) ?_
  refine j_istore_n C [(3, .int r1), (0, .ref o0), (1, .int p1), (2, .int p2)] d_Reader_readLayer_8 (by decide) rfl ?_
  refine j_aload_n C 1 d_Reader_readLayer_9 rfl ?_
  refine gf_Reader_15 C 0 (v := .ref (a 0)) rfl rfl d_Reader_readLayer_10 ?_
  refine j_iload_n C 2 d_Reader_readLayer_13 rfl ?_
  refine j_iload_n C 3 d_Reader_readLayer_14 rfl ?_
  obtain ⟨r2, hr2, h⟩ := bd_ok h
  refine j_PV C [.int p1, .int p2] 4 rfl rfl (c_Layers_endOf l D cI cR cZ a n L p1 p2 hr2) (cw_Reader_90 C ⟨Nat.le_of_ble_eq_true rfl, Nat.le_of_ble_eq_true rfl⟩) [4, 5, 6, 7, 8, 9, 10, 11, 12] rfl rfl rfl (Nat.le_of_ble_eq_true rfl) d_Reader_readLayer_15 (by decide) ?_
  refine j_istore C [(4, .int r2), (3, .int r1), (0, .ref o0), (1, .int p1), (2, .int p2)] d_Reader_readLayer_18 (by decide) rfl ?_
  refine j_aload_n C 2 d_Reader_readLayer_20 rfl ?_
  refine j_iconst C (v := 0) d_Reader_readLayer_21 (by decide) ?_
  refine j_iconst C (v := 1) d_Reader_readLayer_22 (by decide) ?_
  obtain ⟨r3, hr3, h⟩ := bd_ok h
  refine j_IV C [.int 0, .int 1] hA 0 rfl rfl (c_Reader_take l D cI cR cZ o0 hh b q a n B pl rf hd L 0 1 hr3) (cw_Reader_65 C ⟨Nat.le_of_ble_eq_true rfl, Nat.le_of_ble_eq_true rfl⟩) [0, 1, 2, 3, 4, 5, 6, 7, 8, 9, 10, 11, 12] [] rfl rfl (by decide) (by decide) (by decide) rfl rfl (Nat.le_of_ble_eq_true rfl) d_Reader_readLayer_23 (by decide) (fun _ => ?_)
  refine j_ws (ws' := wRd cI cR o0 hh b q a n B r3.2.1 r3.2.2 hd L) rfl ?_
  refine j_istore C [(5, .int r3.1), (4, .int r2), (3, .int r1), (0, .ref o0), (1, .int p1), (2, .int p2)] d_Reader_readLayer_26 (by decide) rfl ?_
  refine j_aload_n C 3 d_Reader_readLayer_28 rfl ?_
  refine gf_Reader_26 C 0 (v := .int r3.2.1) rfl rfl d_Reader_readLayer_29 ?_
  refine j_istore C [(6, .int r3.2.1), (5, .int r3.1), (4, .int r2), (3, .int r1), (0, .ref o0), (1, .int p1), (2, .int p2)] d_Reader_readLayer_32 (by decide) rfl ?_
  refine j_iload C 1 d_Reader_readLayer_34 rfl ?_
  refine j_iconst C (v := (-1)) d_Reader_readLayer_36 (by decide) ?_
  refine j_icmp_ne C 44 d_Reader_readLayer_37 (by decide) (fun c26 => ?_) (fun c26 => ?_)
  · replace h := (if_neg c26).symm.trans h
    refine j_aload_n C 4 d_Reader_readLayer_44 rfl ?_
    refine j_iconst C (v := 0) d_Reader_readLayer_45 (by decide) ?_
    refine j_sipush C (v := 255) d_Reader_readLayer_46 (by decide) ?_
    obtain ⟨r4, hr4, h⟩ := bd_ok h
    refine j_IV C [.int 0, .int 255] hA 0 rfl rfl (c_Reader_take l D cI cR cZ o0 hh b q a n B r3.2.1 r3.2.2 hd L 0 255 hr4) (cw_Reader_65 C ⟨Nat.le_of_ble_eq_true rfl, Nat.le_of_ble_eq_true rfl⟩) [0, 1, 2, 3, 4, 5, 6, 7, 8, 9, 10, 11, 12] [] rfl rfl (by decide) (by decide) (by decide) rfl rfl (Nat.le_of_ble_eq_true rfl) d_Reader_readLayer_49 (by decide) (fun _ => ?_)
    refine j_ws (ws' := wRd cI cR o0 hh b q a n B r4.2.1 r4.2.2 hd L) rfl ?_
    refine j_sub [4, 5, 6, 3, 2, 1, 0] rfl ?_
    exact t_Reader_readLayer_b52 C hr hA h
  · replace h := (if_pos c26).symm.trans h
    refine j_iconst C (v := (-1)) d_Reader_readLayer_40 (by decide) ?_
    refine j_goto C 52 d_Reader_readLayer_41 (by decide) ?_
    refine j_sub [4, 5, 6, 3, 2, 1, 0] rfl ?_
    exact t_Reader_readLayer_b52 C hr hA h
def Reader_readStripe_l4 (fu : Nat) (n : Nat) (B : ByS) (hd : (Nat → Int32)) (v1 : Int32) : Nat → Int32 → Int32 → Int32 → Int32 → LyS → Option (Nat × Int32 × Int32 × Int32 × LyS)
  | 0, _, _, _, _, _ => none
  | k + 1, v2, v3, pl, rf, L =>
  (if 4 < v3 then some (0, 0, pl, rf, L)
  else (Reader_take n B pl rf hd L 160 175).bind fun r1 =>
  (if r1.1 = ((-1)) then some (1, pl, r1.2.1, r1.2.2, L)
  else (if r1.1 = 175 then some (2, pl, r1.2.1, r1.2.2, L)
  else (if (r1.1 - 160) ≤ v2 then some (3, pl, r1.2.1, r1.2.2, L)
  else (Reader_mayFollow n B r1.2.1 r1.2.2 hd L v1 (r1.1 - 160)).bind fun r2 =>
  (if r2 = 0 then some (3, pl, r1.2.1, r1.2.2, L)
  else (Reader_readLayer fu n B r1.2.1 r1.2.2 hd L v1 (r1.1 - 160)).bind fun r3 =>
  (if r3.1 = 0 then some (4, pl, r3.2.1, r3.2.2.1, r3.2.2.2)
  else Reader_readStripe_l4 fu n B hd v1 k (r1.1 - 160) (v3 + 1) r3.2.1 r3.2.2.1 r3.2.2.2))))))
def Reader_readStripe (fu : Nat) (n : Nat) (B : ByS) (pl : Int32) (rf : Int32) (hd : (Nat → Int32)) (L : LyS) (p1 : Int32) : Option (Int32 × Int32 × Int32 × LyS) :=
  (Reader_readStripe_l4 fu n B hd p1 fu ((-1)) 0 pl rf L).bind fun r10 =>
  (if r10.1 = 0 then (Reader_refuse n B r10.2.2.1 r10.2.2.2.1 hd r10.2.2.2.2 r10.2.2.1).bind fun r11 =>
  zb r11.1 (some (r11.1, r10.2.2.1, r11.2, r10.2.2.2.2))
  else (if r10.1 = 1 then zb 0 (some (0, r10.2.2.1, r10.2.2.2.1, r10.2.2.2.2))
  else (if r10.1 = 2 then (Reader_mayEnd n B r10.2.2.1 r10.2.2.2.1 hd r10.2.2.2.2 p1).bind fun r14 =>
  (if r14 = 0 then (Reader_refuse n B r10.2.2.1 r10.2.2.2.1 hd r10.2.2.2.2 r10.2.1).bind fun r16 =>
  (if r16.1 = 0 then zb 0 (some (0, r10.2.2.1, r16.2, r10.2.2.2.2))
  else zb 1 (some (1, r10.2.2.1, r16.2, r10.2.2.2.2)))
  else zb 1 (some (1, r10.2.2.1, r10.2.2.2.1, r10.2.2.2.2)))
  else (if r10.1 = 3 then (Reader_refuse n B r10.2.2.1 r10.2.2.2.1 hd r10.2.2.2.2 r10.2.1).bind fun r21 =>
  zb r21.1 (some (r21.1, r10.2.2.1, r21.2, r10.2.2.2.2))
  else zb 0 (some (0, r10.2.2.1, r10.2.2.2.1, r10.2.2.2.2))))))
set_option maxRecDepth 100000 in
set_option maxHeartbeats 4000000 in
theorem t_Reader_readStripe_l4 {p : Program} {l : Launch} {e : Env} {s : State} {m : MethodId} {args : Array Value} {below : List Frame} {meth : Method} {c : Code} {D : va_G} {cI cR cZ : ClassId} {A : Nat → Prop} {Q : State → Prop} (C : Cx p s m args meth c D (tyG cI cR cZ) b_Reader_readStripe 7 "MaskLayers$Reader") (hA : ∀ q : Nat, s.heap.size ≤ q → A q) {o0 : Nat} {hh : Nat} {b : Nat} {q : Nat} {a : (Nat → Nat)} {n : Nat} {fu : Nat} {B : ByS} {hd : (Nat → Int32)} {v1 : Int32} {out : Nat × Int32 × Int32 × Int32 × LyS} : ∀ (k : Nat) (v2 : Int32) (v3 : Int32) (pl : Int32) (rf : Int32) (L : LyS), Reader_readStripe_l4 fu n B hd v1 k v2 v3 pl rf L = some out → (out.1 = 0 → J p l e rm_Reader_readStripe s m args below meth c D A (va_D A) 7 Q 0 0 (wRd cI cR o0 hh b q a n B out.2.2.1 out.2.2.2.1 hd out.2.2.2.2) [(0, .ref o0)] [] 118) → (out.1 = 1 → J p l e rm_Reader_readStripe s m args below meth c D A (va_D A) 7 Q 0 0 (wRd cI cR o0 hh b q a n B out.2.2.1 out.2.2.2.1 hd out.2.2.2.2) [] [] 33) → (out.1 = 2 → J p l e rm_Reader_readStripe s m args below meth c D A (va_D A) 7 Q 0 0 (wRd cI cR o0 hh b q a n B out.2.2.1 out.2.2.2.1 hd out.2.2.2.2) [(0, .ref o0), (1, .int v1), (4, .int out.2.1)] [] 51) → (out.1 = 3 → J p l e rm_Reader_readStripe s m args below meth c D A (va_D A) 7 Q 0 0 (wRd cI cR o0 hh b q a n B out.2.2.1 out.2.2.2.1 hd out.2.2.2.2) [(0, .ref o0), (4, .int out.2.1)] [] 90) → (out.1 = 4 → J p l e rm_Reader_readStripe s m args below meth c D A (va_D A) 7 Q 0 0 (wRd cI cR o0 hh b q a n B out.2.2.1 out.2.2.2.1 hd out.2.2.2.2) [] [] 107) → J p l e rm_Reader_readStripe s m args below meth c D A (va_D A) 7 Q 0 0 (wRd cI cR o0 hh b q a n B pl rf hd L) [(0, .ref o0), (1, .int v1), (2, .int v2), (3, .int v3)] [] 4 := by
  intro k
  induction k with
  | zero => intro v2 v3 pl rf L h; cases (show none = some out from h)
  | succ k ih =>
    intro v2 v3 pl rf L h x0 x1 x2 x3 x4
    rw [Reader_readStripe_l4] at h
    refine j_iload_n C 3 d_Reader_readStripe_4 rfl ?_
    refine j_iconst C (v := 4) d_Reader_readStripe_5 (by decide) ?_
    refine j_icmp_gt C 118 d_Reader_readStripe_6 (by decide) (fun c9 => ?_) (fun c9 => ?_)
    · replace h := (if_pos c9).symm.trans h
      obtain rfl := Option.some.inj h
      refine j_sub [0] rfl ?_
      exact x0 rfl
    · replace h := (if_neg c9).symm.trans h
      refine j_aload_n C 0 d_Reader_readStripe_9 rfl ?_
      refine gf_Reader_26 C 0 (v := .int pl) rfl rfl d_Reader_readStripe_10 ?_
      refine j_istore C [(4, .int pl), (0, .ref o0), (1, .int v1), (2, .int v2), (3, .int v3)] d_Reader_readStripe_13 (by decide) rfl ?_
      refine j_aload_n C 1 d_Reader_readStripe_15 rfl ?_
      refine j_sipush C (v := 160) d_Reader_readStripe_16 (by decide) ?_
      refine j_sipush C (v := 175) d_Reader_readStripe_19 (by decide) ?_
      obtain ⟨r1, hr1, h⟩ := bd_ok h
      refine j_IV C [.int 160, .int 175] hA 0 rfl rfl (c_Reader_take l D cI cR cZ o0 hh b q a n B pl rf hd L 160 175 hr1) (cw_Reader_65 C ⟨Nat.le_of_ble_eq_true rfl, Nat.le_of_ble_eq_true rfl⟩) [0, 1, 2, 3, 4, 5, 6, 7, 8, 9, 10, 11, 12] [] rfl rfl (by decide) (by decide) (by decide) rfl rfl (Nat.le_of_ble_eq_true rfl) d_Reader_readStripe_22 (by decide) (fun _ => ?_)
      refine j_ws (ws' := wRd cI cR o0 hh b q a n B r1.2.1 r1.2.2 hd L) rfl ?_
      refine j_istore C [(5, .int r1.1), (4, .int pl), (0, .ref o0), (1, .int v1), (2, .int v2), (3, .int v3)] d_Reader_readStripe_25 (by decide) rfl ?_
      refine j_iload C 0 d_Reader_readStripe_27 rfl ?_
      refine j_iconst C (v := (-1)) d_Reader_readStripe_29 (by decide) ?_
      refine j_icmp_ne C 35 d_Reader_readStripe_30 (by decide) (fun c8 => ?_) (fun c8 => ?_)
      · replace h := (if_neg c8).symm.trans h
        refine j_iload C 0 d_Reader_readStripe_35 rfl ?_
        refine j_sipush C (v := 160) d_Reader_readStripe_37 (by decide) ?_
        refine j_isub C d_Reader_readStripe_40 ?_
        refine j_istore C [(6, .int (r1.1 - 160)), (5, .int r1.1), (4, .int pl), (0, .ref o0), (1, .int v1), (2, .int v2), (3, .int v3)] d_Reader_readStripe_41 (by decide) rfl ?_
        refine j_iload C 1 d_Reader_readStripe_43 rfl ?_
        refine j_sipush C (v := 175) d_Reader_readStripe_45 (by decide) ?_
        refine j_icmp_ne C 74 d_Reader_readStripe_48 (by decide) (fun c7 => ?_) (fun c7 => ?_)
        · replace h := (if_neg c7).symm.trans h
          refine j_iload C 0 d_Reader_readStripe_74 rfl ?_
          refine j_iload_n C 5 d_Reader_readStripe_76 rfl ?_
          refine j_icmp_le C 90 d_Reader_readStripe_77 (by decide) (fun c6 => ?_) (fun c6 => ?_)
          · replace h := (if_pos c6).symm.trans h
            obtain rfl := Option.some.inj h
            refine j_sub [3, 2] rfl ?_
            exact x3 rfl
          · replace h := (if_neg c6).symm.trans h
            refine j_aload_n C 3 d_Reader_readStripe_80 rfl ?_
            refine j_iload_n C 4 d_Reader_readStripe_81 rfl ?_
            refine j_iload C 0 d_Reader_readStripe_82 rfl ?_
            obtain ⟨r2, hr2, h⟩ := bd_ok h
            refine j_PV C [.int v1, .int (r1.1 - 160)] 0 rfl rfl (c_Reader_mayFollow l D cI cR cZ o0 hh b q a n B r1.2.1 r1.2.2 hd L v1 (r1.1 - 160) hr2) (cw_Reader_76 C ⟨Nat.le_of_ble_eq_true rfl, Nat.le_of_ble_eq_true rfl⟩) [0, 1, 2, 3, 4, 5, 6, 7, 8, 9, 10, 11, 12] rfl rfl rfl (Nat.le_of_ble_eq_true rfl) d_Reader_readStripe_84 (by decide) ?_
            refine j_if_ne C 97 d_Reader_readStripe_87 (by decide) (fun c5 => ?_) (fun c5 => ?_)
            · replace h := (if_neg c5).symm.trans h
              refine j_aload_n C 3 d_Reader_readStripe_97 rfl ?_
              refine j_iload_n C 4 d_Reader_readStripe_98 rfl ?_
              refine j_iload C 0 d_Reader_readStripe_99 rfl ?_
              obtain ⟨r3, hr3, h⟩ := bd_ok h
              refine j_IV C [.int v1, .int (r1.1 - 160)] hA 0 rfl rfl (c_Reader_readLayer l D cI cR cZ fu o0 hh b q a n B r1.2.1 r1.2.2 hd L v1 (r1.1 - 160) hr3) (cw_Reader_80 C ⟨Nat.le_of_ble_eq_true rfl, Nat.le_of_ble_eq_true rfl⟩) [0, 1, 2, 3, 4, 5, 6, 7, 8, 9, 10, 11, 12] [] rfl rfl (by decide) (by decide) (by decide) rfl rfl (Nat.le_of_ble_eq_true rfl) d_Reader_readStripe_101 (by decide) (fun _ => ?_)
              refine j_ws (ws' := wRd cI cR o0 hh b q a n B r3.2.1 r3.2.2.1 hd r3.2.2.2) rfl ?_
              refine j_if_ne C 109 d_Reader_readStripe_104 (by decide) (fun c4 => ?_) (fun c4 => ?_)
              · replace h := (if_neg c4).symm.trans h
                refine j_iload C 0 d_Reader_readStripe_109 rfl ?_
                refine j_istore_n C [(2, .int (r1.1 - 160)), (6, .int (r1.1 - 160)), (5, .int r1.1), (4, .int pl), (0, .ref o0), (1, .int v1), (3, .int v3)] d_Reader_readStripe_111 (by decide) rfl ?_
                refine j_iinc C [(3, .int (v3 + 1)), (2, .int (r1.1 - 160)), (6, .int (r1.1 - 160)), (5, .int r1.1), (4, .int pl), (0, .ref o0), (1, .int v1)] 6 (v3 + 1) d_Reader_readStripe_112 rfl rfl (by decide) rfl ?_
                refine j_goto C 4 d_Reader_readStripe_115 (by decide) ?_
                refine j_sub [5, 6, 1, 0] rfl ?_
                exact ih (r1.1 - 160) (v3 + 1) r3.2.1 r3.2.2.1 r3.2.2.2 h x0 x1 x2 x3 x4
              · replace h := (if_pos c4).symm.trans h
                obtain rfl := Option.some.inj h
                refine j_sub [] rfl ?_
                exact x4 rfl
            · replace h := (if_pos c5).symm.trans h
              obtain rfl := Option.some.inj h
              refine j_sub [3, 2] rfl ?_
              exact x3 rfl
        · replace h := (if_pos c7).symm.trans h
          obtain rfl := Option.some.inj h
          refine j_sub [3, 4, 2] rfl ?_
          exact x2 rfl
      · replace h := (if_pos c8).symm.trans h
        obtain rfl := Option.some.inj h
        refine j_sub [] rfl ?_
        exact x1 rfl
set_option maxRecDepth 100000 in
set_option maxHeartbeats 4000000 in
theorem c_Reader_readStripe (l : Launch) (D : va_G) (cI cR cZ : ClassId) (fu : Nat) (o0 : Nat) (hh : Nat) (b : Nat) (q : Nat) (a : (Nat → Nat)) (n : Nat) (B : ByS) (pl : Int32) (rf : Int32) (hd : (Nat → Int32)) (L : LyS) (p1 : Int32) {res : (Int32 × Int32 × Int32 × LyS)} (h : Reader_readStripe fu n B pl rf hd L p1 = some res) (sz : Nat) : Met l y_Reader_readStripe (Cond.code y_Reader_readStripe b_Reader_readStripe 7 (some .boolean) :: BIG) rm_Reader_readStripe (PcI [.ref o0, .int p1] D (tyG cI cR cZ) (wRd cI cR o0 hh b q a n B pl rf hd L) sz) (QcI D res.1 (fun _ : Nat => wRd cI cR o0 hh b q a n B res.2.1 res.2.2.1 hd res.2.2.2) (va_A (wRd cI cR o0 hh b q a n B pl rf hd L) sz)) 0 0 (va_A (wRd cI cR o0 hh b q a n B pl rf hd L) sz) := by
  refine met_I (by decide) (Nat.le_of_ble_eq_true rfl) (fun p e s m args below meth c A hA C hr => ?_)
  have C : Cx p s m args meth c D (tyG cI cR cZ) b_Reader_readStripe 7 "MaskLayers$Reader" := C
  have hr : meth.sig.returnType = some .boolean := hr
  show J p l e rm_Reader_readStripe s m args below meth c D A (va_D A) 7 (MQ below (QcI D res.1 (fun _ : Nat => wRd cI cR o0 hh b q a n B res.2.1 res.2.2.1 hd res.2.2.2) A) args s 0 0 A) 0 0 (wRd cI cR o0 hh b q a n B pl rf hd L) [(0, .ref o0), (1, .int p1)] [] 0
  unfold Reader_readStripe at h
  refine j_iconst C (v := (-1)) d_Reader_readStripe_0 (by decide) ?_
  refine j_istore_n C [(2, .int ((-1))), (0, .ref o0), (1, .int p1)] d_Reader_readStripe_1 (by decide) rfl ?_
  refine j_iconst C (v := 0) d_Reader_readStripe_2 (by decide) ?_
  refine j_istore_n C [(3, .int 0), (2, .int ((-1))), (0, .ref o0), (1, .int p1)] d_Reader_readStripe_3 (by decide) rfl ?_
  obtain ⟨r10, hr10, h⟩ := bd_ok h
  refine j_sub [2, 3, 1, 0] rfl ?_
  refine t_Reader_readStripe_l4 C hA fu ((-1)) 0 pl rf L hr10 (fun e24 => ?_) (fun e25 => ?_) (fun e26 => ?_) (fun e27 => ?_) (fun e28 => ?_)
  · replace h := (if_pos e24).symm.trans h
    refine j_aload_n C 0 d_Reader_readStripe_118 rfl ?_
    refine j_aload_n C 0 d_Reader_readStripe_119 rfl ?_
    refine gf_Reader_26 C 0 (v := .int r10.2.2.1) rfl rfl d_Reader_readStripe_120 ?_
    obtain ⟨r11, hr11, h⟩ := bd_ok h
    refine j_IV C [.int r10.2.2.1] hA 0 rfl rfl (c_Reader_refuse l D cI cR cZ o0 hh b q a n B r10.2.2.1 r10.2.2.2.1 hd r10.2.2.2.2 r10.2.2.1 hr11) (cw_Reader_52 C ⟨Nat.le_of_ble_eq_true rfl, Nat.le_of_ble_eq_true rfl⟩) [0, 1, 2, 3, 4, 5, 6, 7, 8, 9, 10, 11, 12] [] rfl rfl (by decide) (by decide) (by decide) rfl rfl (Nat.le_of_ble_eq_true rfl) d_Reader_readStripe_123 (by decide) (fun _ => ?_)
    refine j_ws (ws' := wRd cI cR o0 hh b q a n B r10.2.2.1 r11.2 hd r10.2.2.2.2) rfl ?_
    obtain ⟨b12, h⟩ := zb_ok h
    obtain rfl := Option.some.inj h
    exact j_iretZ C hr d_Reader_readStripe_126 b12 0 rfl
  · replace h := (if_neg (by rw [e25]; decide)).symm.trans h
    replace h := (if_pos e25).symm.trans h
    refine j_iconst C (v := 0) d_Reader_readStripe_33 (by decide) ?_
    obtain ⟨b13, h⟩ := zb_ok h
    obtain rfl := Option.some.inj h
    exact j_iretZ C hr d_Reader_readStripe_34 b13 0 rfl
  · replace h := (if_neg (by rw [e26]; decide)).symm.trans h
    replace h := (if_neg (by rw [e26]; decide)).symm.trans h
    replace h := (if_pos e26).symm.trans h
    refine j_aload_n C 0 d_Reader_readStripe_51 rfl ?_
    refine j_iload_n C 1 d_Reader_readStripe_52 rfl ?_
    obtain ⟨r14, hr14, h⟩ := bd_ok h
    refine j_PV C [.int p1] 0 rfl rfl (c_Reader_mayEnd l D cI cR cZ o0 hh b q a n B r10.2.2.1 r10.2.2.2.1 hd r10.2.2.2.2 p1 hr14) (cw_Reader_73 C ⟨Nat.le_of_ble_eq_true rfl, Nat.le_of_ble_eq_true rfl⟩) [0, 1, 2, 3, 4, 5, 6, 7, 8, 9, 10, 11, 12] rfl rfl rfl (Nat.le_of_ble_eq_true rfl) d_Reader_readStripe_53 (by decide) ?_
    refine j_if_ne C 68 d_Reader_readStripe_56 (by decide) (fun c20 => ?_) (fun c20 => ?_)
    · replace h := (if_neg c20).symm.trans h
      refine j_iconst C (v := 1) d_Reader_readStripe_68 (by decide) ?_
      refine j_goto C 73 d_Reader_readStripe_69 (by decide) ?_
      obtain ⟨b15, h⟩ := zb_ok h
      obtain rfl := Option.some.inj h
      exact j_iretZ C hr d_Reader_readStripe_73 b15 0 rfl
    · replace h := (if_pos c20).symm.trans h
      refine j_aload_n C 0 d_Reader_readStripe_59 rfl ?_
      refine j_iload C 2 d_Reader_readStripe_60 rfl ?_
      obtain ⟨r16, hr16, h⟩ := bd_ok h
      refine j_IV C [.int r10.2.1] hA 0 rfl rfl (c_Reader_refuse l D cI cR cZ o0 hh b q a n B r10.2.2.1 r10.2.2.2.1 hd r10.2.2.2.2 r10.2.1 hr16) (cw_Reader_52 C ⟨Nat.le_of_ble_eq_true rfl, Nat.le_of_ble_eq_true rfl⟩) [0, 1, 2, 3, 4, 5, 6, 7, 8, 9, 10, 11, 12] [] rfl rfl (by decide) (by decide) (by decide) rfl rfl (Nat.le_of_ble_eq_true rfl) d_Reader_readStripe_62 (by decide) (fun _ => ?_)
      refine j_ws (ws' := wRd cI cR o0 hh b q a n B r10.2.2.1 r16.2 hd r10.2.2.2.2) rfl ?_
      refine j_if_eq C 72 d_Reader_readStripe_65 (by decide) (fun c19 => ?_) (fun c19 => ?_)
      · replace h := (if_pos c19).symm.trans h
        refine j_iconst C (v := 0) d_Reader_readStripe_72 (by decide) ?_
        obtain ⟨b17, h⟩ := zb_ok h
        obtain rfl := Option.some.inj h
        exact j_iretZ C hr d_Reader_readStripe_73 b17 0 rfl
      · replace h := (if_neg c19).symm.trans h
        refine j_iconst C (v := 1) d_Reader_readStripe_68 (by decide) ?_
        refine j_goto C 73 d_Reader_readStripe_69 (by decide) ?_
        obtain ⟨b18, h⟩ := zb_ok h
        obtain rfl := Option.some.inj h
        exact j_iretZ C hr d_Reader_readStripe_73 b18 0 rfl
  · replace h := (if_neg (by rw [e27]; decide)).symm.trans h
    replace h := (if_neg (by rw [e27]; decide)).symm.trans h
    replace h := (if_neg (by rw [e27]; decide)).symm.trans h
    replace h := (if_pos e27).symm.trans h
    refine j_aload_n C 0 d_Reader_readStripe_90 rfl ?_
    refine j_iload C 1 d_Reader_readStripe_91 rfl ?_
    obtain ⟨r21, hr21, h⟩ := bd_ok h
    refine j_IV C [.int r10.2.1] hA 0 rfl rfl (c_Reader_refuse l D cI cR cZ o0 hh b q a n B r10.2.2.1 r10.2.2.2.1 hd r10.2.2.2.2 r10.2.1 hr21) (cw_Reader_52 C ⟨Nat.le_of_ble_eq_true rfl, Nat.le_of_ble_eq_true rfl⟩) [0, 1, 2, 3, 4, 5, 6, 7, 8, 9, 10, 11, 12] [] rfl rfl (by decide) (by decide) (by decide) rfl rfl (Nat.le_of_ble_eq_true rfl) d_Reader_readStripe_93 (by decide) (fun _ => ?_)
    refine j_ws (ws' := wRd cI cR o0 hh b q a n B r10.2.2.1 r21.2 hd r10.2.2.2.2) rfl ?_
    obtain ⟨b22, h⟩ := zb_ok h
    obtain rfl := Option.some.inj h
    exact j_iretZ C hr d_Reader_readStripe_96 b22 0 rfl
  · replace h := (if_neg (by rw [e28]; decide)).symm.trans h
    replace h := (if_neg (by rw [e28]; decide)).symm.trans h
    replace h := (if_neg (by rw [e28]; decide)).symm.trans h
    replace h := (if_neg (by rw [e28]; decide)).symm.trans h
    refine j_iconst C (v := 0) d_Reader_readStripe_107 (by decide) ?_
    obtain ⟨b23, h⟩ := zb_ok h
    obtain rfl := Option.some.inj h
    exact j_iretZ C hr d_Reader_readStripe_108 b23 0 rfl
def Reader_readHead_l2 (n : Nat) (B : ByS) (L : LyS) : Nat → Int32 → Int32 → Int32 → (Nat → Int32) → Option (Nat × Int32 × Int32 × (Nat → Int32))
  | 0, _, _, _, _ => none
  | k + 1, v1, pl, rf, hd =>
  (if 7 ≤ v1 then some (0, pl, rf, hd)
  else gd v1 7 (gd v1 7 ((Reader_take n B pl rf hd L (hdLo v1.toNatClampNeg) (hdHi v1.toNatClampNeg)).bind fun r3 =>
  gd v1 7 (gd v1 7 ((if ((upd hd v1.toNatClampNeg r3.1) v1.toNatClampNeg) = ((-1)) then some (1, r3.2.1, r3.2.2, upd hd v1.toNatClampNeg r3.1)
  else Reader_readHead_l2 n B L k (v1 + 1) r3.2.1 r3.2.2 (upd hd v1.toNatClampNeg r3.1)))))))
def Reader_readHead (fu : Nat) (n : Nat) (B : ByS) (pl : Int32) (rf : Int32) (hd : (Nat → Int32)) (L : LyS) : Option (Int32 × Int32 × Int32 × (Nat → Int32) × LyS) :=
  (Reader_readHead_l2 n B L fu 0 pl rf hd).bind fun r8 =>
  (if r8.1 = 0 then gd 2 7 (gd 3 7 (gd 4 7 (gd 5 7 (gd 6 7 ((Layers_shape fu n L (r8.2.2.2 ((2 : Int32).toNatClampNeg)) (r8.2.2.2 ((3 : Int32).toNatClampNeg)) (r8.2.2.2 ((4 : Int32).toNatClampNeg)) (r8.2.2.2 ((5 : Int32).toNatClampNeg)) (r8.2.2.2 ((6 : Int32).toNatClampNeg))).bind fun r14 =>
  zb 1 (some (1, r8.2.1, r8.2.2.1, r8.2.2.2, r14)))))))
  else zb 0 (some (0, r8.2.1, r8.2.2.1, r8.2.2.2, L)))
set_option maxRecDepth 100000 in
set_option maxHeartbeats 4000000 in
theorem t_Reader_readHead_l2 {p : Program} {l : Launch} {e : Env} {s : State} {m : MethodId} {args : Array Value} {below : List Frame} {meth : Method} {c : Code} {D : va_G} {cI cR cZ : ClassId} {A : Nat → Prop} {Q : State → Prop} (C : Cx p s m args meth c D (tyG cI cR cZ) b_Reader_readHead 2 "MaskLayers$Reader") (hA : ∀ q : Nat, s.heap.size ≤ q → A q) {t1 t2 : Nat} (hX : SX t1 t2 A s s.heap) {o0 : Nat} {hh : Nat} {b : Nat} {q : Nat} {a : (Nat → Nat)} {n : Nat} {B : ByS} {L : LyS} {out : Nat × Int32 × Int32 × (Nat → Int32)} : ∀ (k : Nat) (v1 : Int32) (pl : Int32) (rf : Int32) (hd : (Nat → Int32)), Reader_readHead_l2 n B L k v1 pl rf hd = some out → (out.1 = 0 → J p l e rm_Reader_readHead s m args below meth c D A (va_D A) 2 Q 0 0 (wRd cI cR o0 hh b q a n B out.2.1 out.2.2.1 out.2.2.2 L) [(0, .ref o0)] [] 49) → (out.1 = 1 → J p l e rm_Reader_readHead s m args below meth c D A (va_D A) 2 Q 0 0 (wRd cI cR o0 hh b q a n B out.2.1 out.2.2.1 out.2.2.2 L) [] [] 41) → J p l e rm_Reader_readHead s m args below meth c D A (va_D A) 2 Q 0 0 (wRd cI cR o0 hh b q a n B pl rf hd L) [(0, .ref o0), (1, .int v1)] [] 2 := by
  intro k
  induction k with
  | zero => intro v1 pl rf hd h; cases (show none = some out from h)
  | succ k ih =>
    intro v1 pl rf hd h x0 x1
    rw [Reader_readHead_l2] at h
    refine j_iload_n C 1 d_Reader_readHead_2 rfl ?_
    refine j_aload_n C 0 d_Reader_readHead_3 rfl ?_
    refine gf_Reader_23 C 0 (v := .ref hh) rfl rfl d_Reader_readHead_4 ?_
    refine j_alen C (1) (t0 := 0) (v := 7) rfl rfl rfl d_Reader_readHead_7 ?_
    refine j_icmp_ge C 49 d_Reader_readHead_8 (by decide) (fun c7 => ?_) (fun c7 => ?_)
    · replace h := (if_pos c7).symm.trans h
      obtain rfl := Option.some.inj h
      refine j_sub [0] rfl ?_
      exact x0 rfl
    · replace h := (if_neg c7).symm.trans h
      refine j_aload_n C 0 d_Reader_readHead_11 rfl ?_
      refine gf_Reader_23 C 0 (v := .ref hh) rfl rfl d_Reader_readHead_12 ?_
      refine j_iload_n C 1 d_Reader_readHead_15 rfl ?_
      refine j_aload_n C 0 d_Reader_readHead_16 rfl ?_
      refine gs_Reader_19 C hX.1 d_Reader_readHead_17 ?_
      refine j_iload_n C 1 d_Reader_readHead_20 rfl ?_
      obtain ⟨b1, h⟩ := gd_ok h
      refine j_tald C hX.2.1 b1 d_Reader_readHead_21 ?_
      refine gs_Reader_62 C hX.2.2.1 d_Reader_readHead_22 ?_
      refine j_iload_n C 1 d_Reader_readHead_25 rfl ?_
      obtain ⟨b2, h⟩ := gd_ok h
      refine j_tald C hX.2.2.2 b2 d_Reader_readHead_26 ?_
      obtain ⟨r3, hr3, h⟩ := bd_ok h
      refine j_IV C [.int (hdLo v1.toNatClampNeg), .int (hdHi v1.toNatClampNeg)] hA 0 rfl rfl (c_Reader_take l D cI cR cZ o0 hh b q a n B pl rf hd L (hdLo v1.toNatClampNeg) (hdHi v1.toNatClampNeg) hr3) (cw_Reader_65 C ⟨Nat.le_of_ble_eq_true rfl, Nat.le_of_ble_eq_true rfl⟩) [0, 1, 2, 3, 4, 5, 6, 7, 8, 9, 10, 11, 12] [] rfl rfl (by decide) (by decide) (by decide) rfl rfl (Nat.le_of_ble_eq_true rfl) d_Reader_readHead_27 (by decide) (fun _ => ?_)
      refine j_ws (ws' := wRd cI cR o0 hh b q a n B r3.2.1 r3.2.2 hd L) rfl ?_
      obtain ⟨b4, h⟩ := gd_ok h
      refine j_iast C (1) (wRd cI cR o0 hh b q a n B r3.2.1 r3.2.2 (upd hd v1.toNatClampNeg r3.1) L) (t0 := 0) rfl rfl rfl b4 d_Reader_readHead_30 ?_
      refine j_aload_n C 0 d_Reader_readHead_31 rfl ?_
      refine gf_Reader_23 C 0 (v := .ref hh) rfl rfl d_Reader_readHead_32 ?_
      refine j_iload_n C 1 d_Reader_readHead_35 rfl ?_
      obtain ⟨b5, h⟩ := gd_ok h
      refine j_iald C (1) (t0 := 0) rfl rfl b5 d_Reader_readHead_36 ?_
      refine j_iconst C (v := (-1)) d_Reader_readHead_37 (by decide) ?_
      refine j_icmp_ne C 43 d_Reader_readHead_38 (by decide) (fun c6 => ?_) (fun c6 => ?_)
      · replace h := (if_neg c6).symm.trans h
        refine j_iinc C [(1, .int (v1 + 1)), (0, .ref o0)] 1 (v1 + 1) d_Reader_readHead_43 rfl rfl (by decide) rfl ?_
        refine j_goto C 2 d_Reader_readHead_46 (by decide) ?_
        refine j_sub [1, 0] rfl ?_
        exact ih (v1 + 1) r3.2.1 r3.2.2 (upd hd v1.toNatClampNeg r3.1) h x0 x1
      · replace h := (if_pos c6).symm.trans h
        obtain rfl := Option.some.inj h
        refine j_sub [] rfl ?_
        exact x1 rfl
set_option maxRecDepth 100000 in
set_option maxHeartbeats 4000000 in
theorem c_Reader_readHead (l : Launch) (D : va_G) (cI cR cZ : ClassId) (t1 t2 : Nat) (fu : Nat) (o0 : Nat) (hh : Nat) (b : Nat) (q : Nat) (a : (Nat → Nat)) (n : Nat) (B : ByS) (pl : Int32) (rf : Int32) (hd : (Nat → Int32)) (L : LyS) {res : (Int32 × Int32 × Int32 × (Nat → Int32) × LyS)} (h : Reader_readHead fu n B pl rf hd L = some res) (sz : Nat) : Met l y_Reader_readHead (Cond.code y_Reader_readHead b_Reader_readHead 2 (some .boolean) :: BIG) rm_Reader_readHead (PcS t1 t2 [.ref o0] D (tyG cI cR cZ) (wRd cI cR o0 hh b q a n B pl rf hd L) sz) (QcI D res.1 (fun _ : Nat => wRd cI cR o0 hh b q a n B res.2.1 res.2.2.1 res.2.2.2.1 res.2.2.2.2) (va_A (wRd cI cR o0 hh b q a n B pl rf hd L) sz)) 0 0 (va_A (wRd cI cR o0 hh b q a n B pl rf hd L) sz) := by
  refine met_Is (by decide) (Nat.le_of_ble_eq_true rfl) (fun p e s m args below meth c A hA hX C hr => ?_)
  have C : Cx p s m args meth c D (tyG cI cR cZ) b_Reader_readHead 2 "MaskLayers$Reader" := C
  have hr : meth.sig.returnType = some .boolean := hr
  show J p l e rm_Reader_readHead s m args below meth c D A (va_D A) 2 (MQ below (QcI D res.1 (fun _ : Nat => wRd cI cR o0 hh b q a n B res.2.1 res.2.2.1 res.2.2.2.1 res.2.2.2.2) A) args s 0 0 A) 0 0 (wRd cI cR o0 hh b q a n B pl rf hd L) [(0, .ref o0)] [] 0
  unfold Reader_readHead at h
  refine j_iconst C (v := 0) d_Reader_readHead_0 (by decide) ?_
  refine j_istore_n C [(1, .int 0), (0, .ref o0)] d_Reader_readHead_1 (by decide) rfl ?_
  obtain ⟨r8, hr8, h⟩ := bd_ok h
  refine j_sub [1, 0] rfl ?_
  refine t_Reader_readHead_l2 C hA hX fu 0 pl rf hd hr8 (fun e17 => ?_) (fun e18 => ?_)
  · replace h := (if_pos e17).symm.trans h
    refine j_aload_n C 0 d_Reader_readHead_49 rfl ?_
    refine gf_Reader_15 C 0 (v := .ref (a 0)) rfl rfl d_Reader_readHead_50 ?_
    refine j_aload_n C 0 d_Reader_readHead_53 rfl ?_
    refine gf_Reader_23 C 0 (v := .ref hh) rfl rfl d_Reader_readHead_54 ?_
    refine j_iconst C (v := 2) d_Reader_readHead_57 (by decide) ?_
    obtain ⟨b9, h⟩ := gd_ok h
    refine j_iald C (1) (t0 := 0) rfl rfl b9 d_Reader_readHead_58 ?_
    refine j_aload_n C 0 d_Reader_readHead_59 rfl ?_
    refine gf_Reader_23 C 0 (v := .ref hh) rfl rfl d_Reader_readHead_60 ?_
    refine j_iconst C (v := 3) d_Reader_readHead_63 (by decide) ?_
    obtain ⟨b10, h⟩ := gd_ok h
    refine j_iald C (1) (t0 := 0) rfl rfl b10 d_Reader_readHead_64 ?_
    refine j_aload_n C 0 d_Reader_readHead_65 rfl ?_
    refine gf_Reader_23 C 0 (v := .ref hh) rfl rfl d_Reader_readHead_66 ?_
    refine j_iconst C (v := 4) d_Reader_readHead_69 (by decide) ?_
    obtain ⟨b11, h⟩ := gd_ok h
    refine j_iald C (1) (t0 := 0) rfl rfl b11 d_Reader_readHead_70 ?_
    refine j_aload_n C 0 d_Reader_readHead_71 rfl ?_
    refine gf_Reader_23 C 0 (v := .ref hh) rfl rfl d_Reader_readHead_72 ?_
    refine j_iconst C (v := 5) d_Reader_readHead_75 (by decide) ?_
    obtain ⟨b12, h⟩ := gd_ok h
    refine j_iald C (1) (t0 := 0) rfl rfl b12 d_Reader_readHead_76 ?_
    refine j_aload_n C 0 d_Reader_readHead_77 rfl ?_
    refine gf_Reader_23 C 0 (v := .ref hh) rfl rfl d_Reader_readHead_78 ?_
    refine j_bipush C (v := 6) d_Reader_readHead_81 (by decide) ?_
    obtain ⟨b13, h⟩ := gd_ok h
    refine j_iald C (1) (t0 := 0) rfl rfl b13 d_Reader_readHead_83 ?_
    obtain ⟨r14, hr14, h⟩ := bd_ok h
    refine j_VV C [.int (r8.2.2.2 ((2 : Int32).toNatClampNeg)), .int (r8.2.2.2 ((3 : Int32).toNatClampNeg)), .int (r8.2.2.2 ((4 : Int32).toNatClampNeg)), .int (r8.2.2.2 ((5 : Int32).toNatClampNeg)), .int (r8.2.2.2 ((6 : Int32).toNatClampNeg))] hA 4 rfl rfl (c_Layers_shape l D cI cR cZ fu a n L (r8.2.2.2 ((2 : Int32).toNatClampNeg)) (r8.2.2.2 ((3 : Int32).toNatClampNeg)) (r8.2.2.2 ((4 : Int32).toNatClampNeg)) (r8.2.2.2 ((5 : Int32).toNatClampNeg)) (r8.2.2.2 ((6 : Int32).toNatClampNeg)) hr14) (cw_Reader_69 C ⟨Nat.le_of_ble_eq_true rfl, Nat.le_of_ble_eq_true rfl⟩) [4, 5, 6, 7, 8, 9, 10, 11, 12] [0, 1, 2, 3] rfl rfl (by decide) (by decide) (by decide) rfl rfl (Nat.le_of_ble_eq_true rfl) d_Reader_readHead_84 (by decide) (fun _ => ?_)
    refine j_ws (ws' := wRd cI cR o0 hh b q a n B r8.2.1 r8.2.2.1 r8.2.2.2 r14) rfl ?_
    refine j_iconst C (v := 1) d_Reader_readHead_87 (by decide) ?_
    obtain ⟨b15, h⟩ := zb_ok h
    obtain rfl := Option.some.inj h
    exact j_iretZ C hr d_Reader_readHead_88 b15 0 rfl
  · replace h := (if_neg (by rw [e18]; decide)).symm.trans h
    refine j_iconst C (v := 0) d_Reader_readHead_41 (by decide) ?_
    obtain ⟨b16, h⟩ := zb_ok h
    obtain rfl := Option.some.inj h
    exact j_iretZ C hr d_Reader_readHead_42 b16 0 rfl
def Reader_readAll_l19 (fu : Nat) (n : Nat) (B : ByS) (hd : (Nat → Int32)) : Nat → Int32 → Int32 → Int32 → Int32 → LyS → Option (Nat × Int32 × Int32 × Int32 × LyS)
  | 0, _, _, _, _, _ => none
  | k + 1, v1, v2, pl, rf, L =>
  (if v1 = 0 then some (0, v1, pl, rf, L)
  else (Layers_stripes n L).bind fun r3 =>
  (if r3 ≤ v2 then some (0, v1, pl, rf, L)
  else (Reader_readStripe fu n B pl rf hd L v2).bind fun r4 =>
  Reader_readAll_l19 fu n B hd k r4.1 (v2 + 1) r4.2.1 r4.2.2.1 r4.2.2.2))
def Reader_readAll_b73 (fu : Nat) (n : Nat) (B : ByS) (pl : Int32) (rf : Int32) (hd : (Nat → Int32)) (L : LyS) (v1 : Int32) : Option (Int32 × Int32 × Int32 × (Nat → Int32) × LyS) :=
  (if v1 = 0 then (Layers_forget fu n L).bind fun r8 =>
  some (((-1)) - rf, pl, rf, hd, r8)
  else some (L.1 3, pl, rf, hd, L))
def Reader_readAll_b46 (fu : Nat) (n : Nat) (B : ByS) (pl : Int32) (rf : Int32) (hd : (Nat → Int32)) (L : LyS) (v1 : Int32) : Option (Int32 × Int32 × Int32 × (Nat → Int32) × LyS) :=
  (if v1 = 0 then Reader_readAll_b73 fu n B pl rf hd L v1
  else (if B.1 ≤ pl then Reader_readAll_b73 fu n B pl rf hd L v1
  else (Reader_refuse n B pl rf hd L pl).bind fun r10 =>
  Reader_readAll_b73 fu n B pl r10.2 hd L r10.1))
def Reader_readAll (fu : Nat) (n : Nat) (B : ByS) (pl : Int32) (rf : Int32) (hd : (Nat → Int32)) (L : LyS) : Option (Int32 × Int32 × Int32 × (Nat → Int32) × LyS) :=
  (Layers_forget fu n L).bind fun r1 =>
  (Reader_readHead fu n B 0 rf hd r1).bind fun r2 =>
  (Reader_readAll_l19 fu n B r2.2.2.2.1 fu r2.1 0 r2.2.1 r2.2.2.1 r2.2.2.2.2).bind fun r7 =>
  Reader_readAll_b46 fu n B r7.2.2.1 r7.2.2.2.1 r2.2.2.2.1 r7.2.2.2.2 r7.2.1
set_option maxRecDepth 100000 in
set_option maxHeartbeats 4000000 in
theorem t_Reader_readAll_l19 {p : Program} {l : Launch} {e : Env} {s : State} {m : MethodId} {args : Array Value} {below : List Frame} {meth : Method} {c : Code} {D : va_G} {cI cR cZ : ClassId} {A : Nat → Prop} {Q : State → Prop} (C : Cx p s m args meth c D (tyG cI cR cZ) b_Reader_readAll 3 "MaskLayers$Reader") (hA : ∀ q : Nat, s.heap.size ≤ q → A q) {t1 t2 : Nat} (hX : SX t1 t2 A s s.heap) {o0 : Nat} {hh : Nat} {b : Nat} {q : Nat} {a : (Nat → Nat)} {n : Nat} {fu : Nat} {B : ByS} {hd : (Nat → Int32)} {out : Nat × Int32 × Int32 × Int32 × LyS} : ∀ (k : Nat) (v1 : Int32) (v2 : Int32) (pl : Int32) (rf : Int32) (L : LyS), Reader_readAll_l19 fu n B hd k v1 v2 pl rf L = some out → (out.1 = 0 → J p l e rm_Reader_readAll s m args below meth c D A (va_D A) 3 Q 0 0 (wRd cI cR o0 hh b q a n B out.2.2.1 out.2.2.2.1 hd out.2.2.2.2) [(0, .ref o0), (1, .int out.2.1)] [] 46) → J p l e rm_Reader_readAll s m args below meth c D A (va_D A) 3 Q 0 0 (wRd cI cR o0 hh b q a n B pl rf hd L) [(0, .ref o0), (1, .int v1), (2, .int v2)] [] 19 := by
  intro k
  induction k with
  | zero => intro v1 v2 pl rf L h; cases (show none = some out from h)
  | succ k ih =>
    intro v1 v2 pl rf L h x0
    rw [Reader_readAll_l19] at h
    refine j_iload_n C 1 d_Reader_readAll_19 rfl ?_
    refine j_if_eq C 46 d_Reader_readAll_20 (by decide) (fun c6 => ?_) (fun c6 => ?_)
    · replace h := (if_pos c6).symm.trans h
      obtain rfl := Option.some.inj h
      refine j_sub [0, 1] rfl ?_
      exact x0 rfl
    · replace h := (if_neg c6).symm.trans h
      refine j_iload_n C 2 d_Reader_readAll_23 rfl ?_
      refine j_aload_n C 0 d_Reader_readAll_24 rfl ?_
      refine gf_Reader_15 C 0 (v := .ref (a 0)) rfl rfl d_Reader_readAll_25 ?_
      obtain ⟨r3, hr3, h⟩ := bd_ok h
      refine j_PV C [] 4 rfl rfl (c_Layers_stripes l D cI cR cZ a n L hr3) (cw_Reader_39 C ⟨Nat.le_of_ble_eq_true rfl, Nat.le_of_ble_eq_true rfl⟩) [4, 5, 6, 7, 8, 9, 10, 11, 12] rfl rfl rfl (Nat.le_of_ble_eq_true rfl) d_Reader_readAll_28 (by decide) ?_
      refine j_icmp_ge C 46 d_Reader_readAll_31 (by decide) (fun c5 => ?_) (fun c5 => ?_)
      · replace h := (if_pos c5).symm.trans h
        obtain rfl := Option.some.inj h
        refine j_sub [0, 1] rfl ?_
        exact x0 rfl
      · replace h := (if_neg c5).symm.trans h
        refine j_aload_n C 0 d_Reader_readAll_34 rfl ?_
        refine j_iload_n C 2 d_Reader_readAll_35 rfl ?_
        obtain ⟨r4, hr4, h⟩ := bd_ok h
        refine j_IV C [.int v2] hA 0 rfl rfl (c_Reader_readStripe l D cI cR cZ fu o0 hh b q a n B pl rf hd L v2 hr4) (cw_Reader_43 C ⟨Nat.le_of_ble_eq_true rfl, Nat.le_of_ble_eq_true rfl⟩) [0, 1, 2, 3, 4, 5, 6, 7, 8, 9, 10, 11, 12] [] rfl rfl (by decide) (by decide) (by decide) rfl rfl (Nat.le_of_ble_eq_true rfl) d_Reader_readAll_36 (by decide) (fun _ => ?_)
        refine j_ws (ws' := wRd cI cR o0 hh b q a n B r4.2.1 r4.2.2.1 hd r4.2.2.2) rfl ?_
        refine j_istore_n C [(1, .int r4.1), (0, .ref o0), (2, .int v2)] d_Reader_readAll_39 (by decide) rfl ?_
        refine j_iinc C [(2, .int (v2 + 1)), (1, .int r4.1), (0, .ref o0)] 2 (v2 + 1) d_Reader_readAll_40 rfl rfl (by decide) rfl ?_
        refine j_goto C 19 d_Reader_readAll_43 (by decide) ?_
        refine j_sub [2, 1, 0] rfl ?_
        exact ih r4.1 (v2 + 1) r4.2.1 r4.2.2.1 r4.2.2.2 h x0
set_option maxRecDepth 100000 in
set_option maxHeartbeats 4000000 in
theorem t_Reader_readAll_b73 {p : Program} {l : Launch} {e : Env} {s : State} {m : MethodId} {args : Array Value} {below : List Frame} {meth : Method} {c : Code} {D : va_G} {cI cR cZ : ClassId} {A : Nat → Prop} (C : Cx p s m args meth c D (tyG cI cR cZ) b_Reader_readAll 3 "MaskLayers$Reader") (hr : meth.sig.returnType = some .int) (hA : ∀ q : Nat, s.heap.size ≤ q → A q) {t1 t2 : Nat} (hX : SX t1 t2 A s s.heap) {o0 : Nat} {hh : Nat} {b : Nat} {q : Nat} {a : (Nat → Nat)} {n : Nat} {B : ByS} {pl : Int32} {rf : Int32} {hd : (Nat → Int32)} {L : LyS} {fu : Nat} {v1 : Int32} {res : (Int32 × Int32 × Int32 × (Nat → Int32) × LyS)} (h : Reader_readAll_b73 fu n B pl rf hd L v1 = some res) : J p l e rm_Reader_readAll s m args below meth c D A (va_D A) 3 (MQ below (QcI D res.1 (fun _ : Nat => wRd cI cR o0 hh b q a n B res.2.1 res.2.2.1 res.2.2.2.1 res.2.2.2.2) A) args s 0 0 A) 0 0 (wRd cI cR o0 hh b q a n B pl rf hd L) [(0, .ref o0), (1, .int v1)] [] 73 := by
  unfold Reader_readAll_b73 at h
  refine j_iload_n C 1 d_Reader_readAll_73 rfl ?_
  refine j_if_eq C 85 d_Reader_readAll_74 (by decide) (fun c9 => ?_) (fun c9 => ?_)
  · replace h := (if_pos c9).symm.trans h
    refine j_aload_n C 0 d_Reader_readAll_85 rfl ?_
    refine gf_Reader_15 C 0 (v := .ref (a 0)) rfl rfl d_Reader_readAll_86 ?_
    obtain ⟨r8, hr8, h⟩ := bd_ok h
    refine j_VV C [] hA 4 rfl rfl (c_Layers_forget l D cI cR cZ fu a n L hr8) (cw_Reader_30 C ⟨Nat.le_of_ble_eq_true rfl, Nat.le_of_ble_eq_true rfl⟩) [4, 5, 6, 7, 8, 9, 10, 11, 12] [0, 1, 2, 3] rfl rfl (by decide) (by decide) (by decide) rfl rfl (Nat.le_of_ble_eq_true rfl) d_Reader_readAll_89 (by decide) (fun _ => ?_)
    refine j_ws (ws' := wRd cI cR o0 hh b q a n B pl rf hd r8) rfl ?_
    refine j_iconst C (v := (-1)) d_Reader_readAll_92 (by decide) ?_
    refine j_aload_n C 0 d_Reader_readAll_93 rfl ?_
    refine gf_Reader_56 C 0 (v := .int rf) rfl rfl d_Reader_readAll_94 ?_
    refine j_isub C d_Reader_readAll_97 ?_
    obtain rfl := Option.some.inj h
    exact j_iret C hr d_Reader_readAll_98 0 rfl
  · replace h := (if_neg c9).symm.trans h
    refine j_aload_n C 0 d_Reader_readAll_77 rfl ?_
    refine gf_Reader_15 C 0 (v := .ref (a 0)) rfl rfl d_Reader_readAll_78 ?_
    refine gf_Reader_55 C 4 (v := .int (L.1 3)) rfl rfl d_Reader_readAll_81 ?_
    obtain rfl := Option.some.inj h
    exact j_iret C hr d_Reader_readAll_84 0 rfl
set_option maxRecDepth 100000 in
set_option maxHeartbeats 4000000 in
theorem t_Reader_readAll_b46 {p : Program} {l : Launch} {e : Env} {s : State} {m : MethodId} {args : Array Value} {below : List Frame} {meth : Method} {c : Code} {D : va_G} {cI cR cZ : ClassId} {A : Nat → Prop} (C : Cx p s m args meth c D (tyG cI cR cZ) b_Reader_readAll 3 "MaskLayers$Reader") (hr : meth.sig.returnType = some .int) (hA : ∀ q : Nat, s.heap.size ≤ q → A q) {t1 t2 : Nat} (hX : SX t1 t2 A s s.heap) {o0 : Nat} {hh : Nat} {b : Nat} {q : Nat} {a : (Nat → Nat)} {n : Nat} {B : ByS} {pl : Int32} {rf : Int32} {hd : (Nat → Int32)} {L : LyS} {fu : Nat} {v1 : Int32} {res : (Int32 × Int32 × Int32 × (Nat → Int32) × LyS)} (h : Reader_readAll_b46 fu n B pl rf hd L v1 = some res) : J p l e rm_Reader_readAll s m args below meth c D A (va_D A) 3 (MQ below (QcI D res.1 (fun _ : Nat => wRd cI cR o0 hh b q a n B res.2.1 res.2.2.1 res.2.2.2.1 res.2.2.2.2) A) args s 0 0 A) 0 0 (wRd cI cR o0 hh b q a n B pl rf hd L) [(0, .ref o0), (1, .int v1)] [] 46 := by
  unfold Reader_readAll_b46 at h
  refine j_iload_n C 1 d_Reader_readAll_46 rfl ?_
  refine j_if_eq C 73 d_Reader_readAll_47 (by decide) (fun c12 => ?_) (fun c12 => ?_)
  · replace h := (if_pos c12).symm.trans h
    refine j_sub [0, 1] rfl ?_
    exact t_Reader_readAll_b73 C hr hA hX h
  · replace h := (if_neg c12).symm.trans h
    refine j_aload_n C 0 d_Reader_readAll_50 rfl ?_
    refine gf_Reader_26 C 0 (v := .int pl) rfl rfl d_Reader_readAll_51 ?_
    refine j_aload_n C 0 d_Reader_readAll_54 rfl ?_
    refine gf_Reader_9 C 0 (v := .ref b) rfl rfl d_Reader_readAll_55 ?_
    refine gf_Reader_47 C 2 (v := .int B.1) rfl rfl d_Reader_readAll_58 ?_
    refine j_icmp_ge C 73 d_Reader_readAll_61 (by decide) (fun c11 => ?_) (fun c11 => ?_)
    · replace h := (if_pos c11).symm.trans h
      refine j_sub [0, 1] rfl ?_
      exact t_Reader_readAll_b73 C hr hA hX h
    · replace h := (if_neg c11).symm.trans h
      refine j_aload_n C 0 d_Reader_readAll_64 rfl ?_
      refine j_aload_n C 0 d_Reader_readAll_65 rfl ?_
      refine gf_Reader_26 C 0 (v := .int pl) rfl rfl d_Reader_readAll_66 ?_
      obtain ⟨r10, hr10, h⟩ := bd_ok h
      refine j_IV C [.int pl] hA 0 rfl rfl (c_Reader_refuse l D cI cR cZ o0 hh b q a n B pl rf hd L pl hr10) (cw_Reader_52 C ⟨Nat.le_of_ble_eq_true rfl, Nat.le_of_ble_eq_true rfl⟩) [0, 1, 2, 3, 4, 5, 6, 7, 8, 9, 10, 11, 12] [] rfl rfl (by decide) (by decide) (by decide) rfl rfl (Nat.le_of_ble_eq_true rfl) d_Reader_readAll_69 (by decide) (fun _ => ?_)
      refine j_ws (ws' := wRd cI cR o0 hh b q a n B pl r10.2 hd L) rfl ?_
      refine j_istore_n C [(1, .int r10.1), (0, .ref o0)] d_Reader_readAll_72 (by decide) rfl ?_
      refine j_sub [1, 0] rfl ?_
      exact t_Reader_readAll_b73 C hr hA hX h
set_option maxRecDepth 100000 in
set_option maxHeartbeats 4000000 in
theorem c_Reader_readAll (l : Launch) (D : va_G) (cI cR cZ : ClassId) (t1 t2 : Nat) (fu : Nat) (o0 : Nat) (hh : Nat) (b : Nat) (q : Nat) (a : (Nat → Nat)) (n : Nat) (B : ByS) (pl : Int32) (rf : Int32) (hd : (Nat → Int32)) (L : LyS) {res : (Int32 × Int32 × Int32 × (Nat → Int32) × LyS)} (h : Reader_readAll fu n B pl rf hd L = some res) (sz : Nat) : Met l y_Reader_readAll (Cond.code y_Reader_readAll b_Reader_readAll 3 (some .int) :: BIG) rm_Reader_readAll (PcS t1 t2 [.ref o0] D (tyG cI cR cZ) (wRd cI cR o0 hh b q a n B pl rf hd L) sz) (QcI D res.1 (fun _ : Nat => wRd cI cR o0 hh b q a n B res.2.1 res.2.2.1 res.2.2.2.1 res.2.2.2.2) (va_A (wRd cI cR o0 hh b q a n B pl rf hd L) sz)) 0 0 (va_A (wRd cI cR o0 hh b q a n B pl rf hd L) sz) := by
  refine met_Is (by decide) (Nat.le_of_ble_eq_true rfl) (fun p e s m args below meth c A hA hX C hr => ?_)
  have C : Cx p s m args meth c D (tyG cI cR cZ) b_Reader_readAll 3 "MaskLayers$Reader" := C
  have hr : meth.sig.returnType = some .int := hr
  show J p l e rm_Reader_readAll s m args below meth c D A (va_D A) 3 (MQ below (QcI D res.1 (fun _ : Nat => wRd cI cR o0 hh b q a n B res.2.1 res.2.2.1 res.2.2.2.1 res.2.2.2.2) A) args s 0 0 A) 0 0 (wRd cI cR o0 hh b q a n B pl rf hd L) [(0, .ref o0)] [] 0
  unfold Reader_readAll at h
  refine j_aload_n C 0 d_Reader_readAll_0 rfl ?_
  refine j_iconst C (v := 0) d_Reader_readAll_1 (by decide) ?_
  refine pf_Reader_26 C 0 (wRd cI cR o0 hh b q a n B 0 rf hd L) rfl rfl rfl d_Reader_readAll_2 ?_
  refine j_aload_n C 0 d_Reader_readAll_5 rfl ?_
  refine gf_Reader_15 C 0 (v := .ref (a 0)) rfl rfl d_Reader_readAll_6 ?_
  obtain ⟨r1, hr1, h⟩ := bd_ok h
  refine j_VV C [] hA 4 rfl rfl (c_Layers_forget l D cI cR cZ fu a n L hr1) (cw_Reader_30 C ⟨Nat.le_of_ble_eq_true rfl, Nat.le_of_ble_eq_true rfl⟩) [4, 5, 6, 7, 8, 9, 10, 11, 12] [0, 1, 2, 3] rfl rfl (by decide) (by decide) (by decide) rfl rfl (Nat.le_of_ble_eq_true rfl) d_Reader_readAll_9 (by decide) (fun _ => ?_)
  refine j_ws (ws' := wRd cI cR o0 hh b q a n B 0 rf hd r1) rfl ?_
  refine j_aload_n C 0 d_Reader_readAll_12 rfl ?_
  obtain ⟨r2, hr2, h⟩ := bd_ok h
  refine j_IVs C [] hA hX 0 rfl rfl (c_Reader_readHead l D cI cR cZ t1 t2 fu o0 hh b q a n B 0 rf hd r1 hr2) (cw_Reader_35 C ⟨Nat.le_of_ble_eq_true rfl, Nat.le_of_ble_eq_true rfl⟩) [0, 1, 2, 3, 4, 5, 6, 7, 8, 9, 10, 11, 12] [] rfl rfl (by decide) (by decide) (by decide) rfl rfl (Nat.le_of_ble_eq_true rfl) d_Reader_readAll_13 (by decide) (fun _ => ?_)
  refine j_ws (ws' := wRd cI cR o0 hh b q a n B r2.2.1 r2.2.2.1 r2.2.2.2.1 r2.2.2.2.2) rfl ?_
  refine j_istore_n C [(1, .int r2.1), (0, .ref o0)] d_Reader_readAll_16 (by decide) rfl ?_
  refine j_iconst C (v := 0) d_Reader_readAll_17 (by decide) ?_
  refine j_istore_n C [(2, .int 0), (1, .int r2.1), (0, .ref o0)] d_Reader_readAll_18 (by decide) rfl ?_
  obtain ⟨r7, hr7, h⟩ := bd_ok h
  refine j_sub [2, 1, 0] rfl ?_
  refine t_Reader_readAll_l19 C hA hX fu r2.1 0 r2.2.1 r2.2.2.1 r2.2.2.2.2 hr7 (fun e13 => ?_)
  · refine j_sub [0, 1] rfl ?_
    exact t_Reader_readAll_b46 C hr hA hX h
end
section
section JC
variable {p : Program} {l : Launch} {e : Env} {R : Room} {s : State} {m : MethodId} {args : Array Value} {below : List Frame} {meth : Method} {c : Code} {D : va_G} {A : Nat → Prop} {X : va_W → Prop} {nL : Nat} {Q : State → Prop} {cells slots : Nat} {ws : va_W} {lv : List (Nat × Value)} {st : List Value} {pc : Nat}
variable {tys : List (ClassId × FieldType)} {cc : ByteArray}
variable {own : String}
def QcR {S : Type} (D : va_G) (w : S → Nat → va_W) (A : Nat → Prop) : Array Value → State → Outcome → State → Prop := va_Qr (fun (_ : S) => True) (fun u a t => va_P D vwCl (w u a) t.heap ∧ va_D A (w u a)) A
theorem j_aret (C : Cx p s m args meth c D tys cc nL own) {S : Type} {w : S → Nat → va_W} {rt : FieldType} (hr : meth.sig.returnType = some (.array rt)) (d : decode cc pc = .ok (.areturn, 1)) (u : S) {a : Nat} (hw : ws = w u a) : J p l e R s m args below meth c D A (va_D A) nL (MQ below (QcR D w A) args s cells slots A) cells slots ws lv [.ref a] pc := by
  subst hw
  exact fun H locs ls hP hD hS h => W.aret (v := .ref a) C.1.1 C.1.2.1 hr (Or.inr ⟨_, rfl⟩) (Or.inr ⟨_, rfl⟩) (fun t ht hW => ⟨⟨u, a, rfl, trivial, by rw [ht]; exact hP, hD⟩, hS.F ht⟩) hS.2.2 d C.2.2.2
theorem j_copy (C : Cx p s m args meth c D tys cc nL own) {index : Nat} (hl : Cond.methodLink own index arraycopyName ∈ BIG) (hna : Cond.native arraycopyName ∈ BIG) (hst : Cond.static arraycopyName ∈ BIG) (hi : Cond.initialized "java/lang/System" ∈ BIG) (q0 q1 : Nat) (ws' : va_W) {t0 : Nat} {a a0 : Nat} {cA : ClassId} {n0 n1 : Nat} {f g : Nat → Int32} (ha0 : ws[q0]? = some (a0, .inl (cA, n0, .inl f))) (ha1 : ws[q1]? = some (a, .inl (cA, n1, .inl g))) (ht0 : tys[t0]? = some (cA, .int)) {sp dp n : Int32} (h1 : ¬ sp < 0) (h2 : ¬ dp < 0) (h3 : ¬ n < 0) (h4 : sp.toNatClampNeg + n.toNatClampNeg ≤ n0) (h5 : dp.toNatClampNeg + n.toNatClampNeg ≤ n1)
    (hfr : 1 ≤ R.frames) (hlo : (st.map fun v => v.category).sum + (nativeFrameWords "java/lang/System" "arraycopy" 5 + 11) ≤ R.locals) (hw : ws.set q1 (a, .inl (cA, n1, .inl (va_cpy f g sp.toNatClampNeg dp.toNatClampNeg n.toNatClampNeg))) = ws') (d : decode cc pc = .ok (.invokestatic index, 3)) (k : J p l e R s m args below meth c D A (va_D A) nL Q cells slots ws' lv st (pc + 3)) : J p l e R s m args below meth c D A (va_D A) nL Q cells slots ws lv (.int n :: .int dp :: .ref a :: .int sp :: .ref a0 :: st) pc := by
  subst hw
  exact fun H locs ls hP hD hS h => va_copyi C.1.1 C.1.2.1 (C.1.2.2.1.trans h.1.symm) C.1.2.2.2.1 (C.1.2.2.2.2 _ hl) (C.1.2.2.2.2 _ hna) (C.1.2.2.2.2 _ hst) (C.1.2.2.2.2 _ hi) C.2.1 hP hD hS q0 q1 t0 t0 ha0 ha1 ht0 ht0 rfl h1 h2 h3 h4 h5 (fun _ _ => rfl) hfr hlo d (fun H1 locs1 hP hD hS => k H1 locs1 ls hP hD hS h)
theorem j_RS (C : Cx p s m args meth c D tys cc nL own) {y : MethodName} {bytes : ByteArray} {maxL n index : Nat} {ret : Option FieldType} {rm : Room} (As : List Value) {rest st0 : List Value} {wc : va_W} {S : Type} {w : S → Nat → va_W} {mc ms : Nat} (hA : ∀ q, s.heap.size ≤ q → A q) (hM : ∀ sz : Nat, Met l y (Cond.code y bytes maxL ret :: BIG) rm (PcI As D tys wc sz) (QcR D w (va_A wc sz)) mc ms (va_A wc sz)) (cw : CallB R s args own index y bytes maxL ret (Cond.code y bytes maxL ret :: BIG) rm mc ms n ∧ (Cond.static y).before args s = true) (is ir : List Nat) (hs : is.map (fun i => ws[i]?) = wc.map some) (hr0 : ir.map (fun i => ws[i]?) = (ir.filterMap (fun i => ws[i]?)).map some) (hnd : va_nd is = true) (hn0 : va_nd ir = true) (hdis : ∀ i ∈ ir, i ∉ is) (hn : As.length = n) (hst : st0 = As.reverse ++ rest) (hW : (rest.map fun v => v.category).sum ≤ 8) (d : decode cc pc = .ok (.invokestatic index, 3)) (hf : cells + mc ≤ R.cells ∧ slots + ms ≤ R.slots) (k : ∀ (u : S) (q : Nat), J p l e R s m args below meth c D A (va_D A) nL Q (cells + mc) (slots + ms) (ir.filterMap (fun i => ws[i]?) ++ w u q) lv (.ref q :: rest) (pc + 3)) : J p l e R s m args below meth c D A (va_D A) nL Q cells slots ws lv st0 pc := by
  subst hst
  exact fun H locs ls hP hD hS h => va_callr (va_runS C.1 (hM H.size) cw ⟨PcI.blind, fun U hU hW1 => ⟨rfl, by rw [hU], by rw [hU]; exact P_map hP is hs, C.kk.moved hW1, (hD.sub is hnd hs).weaken (fun _ _ _ _ => trivial)⟩⟩ rfl hn h.1 rfl (lv_room hW) d hf) hS (fun q _ z => va_free hD hS hA is hs q z) (fun q z => va_free hD hS hA is hs q z) (fun u ra t H1 locs1 ht hvm hw hB hz hk hS1 => by
    obtain ⟨hP1, hD1⟩ := hB
    rw [ht] at hP1
    obtain ⟨hP2, hD2⟩ := va_join hP hD is ir hs hr0 hn0 hdis hk (va_free hD hS hA is hs) hP1 hD1
    exact k u ra H1 locs1 ls hP2 hD2 hS1 h)
end JC
theorem met_R {l : Launch} {y : MethodName} {cc : ByteArray} {maxL mc ms : Nat} {rt : FieldType} {rm : Room} {av : List Value} {D : va_G} {tys : List (ClassId × FieldType)} {w : va_W} {S : Type} {w1 : S → Nat → va_W} {sz : Nat} (hy : plainName y.cls = true) (hlen : (lg_sl av).length ≤ maxL)
    (body : ∀ (p : Program) (e : Env) (s : State) (m : MethodId) (args : Array Value) (below : List Frame) (meth : Method) (c : Code) (A : Nat → Prop), (∀ q : Nat, s.heap.size ≤ q → A q) → Cx p s m args meth c D tys cc maxL y.cls → meth.sig.returnType = some rt → J p l e rm s m args below meth c D A (va_D A) maxL (MQ below (QcR D w1 A) args s mc ms A) 0 0 w (lv_args 0 av) [] 0) : Met l y (Cond.code y cc maxL (some rt) :: BIG) rm (PcI av D tys w sz) (QcR D w1 (va_A w sz)) mc ms (va_A w sz) := by
  refine Met.ofW (cc := cc) (maxL := maxL) (ret := some rt) hy rfl ?_
  intro p e s m args below meth c s₁ B hml hv
  obtain ⟨rfl, hsz, hP, hKK, hD0⟩ := hv
  subst hsz
  have hts := atoms_spec (ws := Cond.code y cc maxL (some rt) :: BIG) B.pre
  have hown : s.vm.findClass y.cls = some m.cls := findClass_of_methodNamed B.named
  have hl := lv_entry av (n := maxL) hlen
  rw [lg_entry_eq]
  exact body p e s m _ below meth c (va_A w s.heap.size) (fun q h => Or.inr h) ⟨⟨B.exec, B.bytes, hml, hown, fun w hw => hts w (List.mem_cons_of_mem _ hw)⟩, hKK.1, hKK.2, B.notSynchronized⟩ B.returns s.heap [] _ hP hD0.self va_S.rf hl
def cpO (v : Nat → Int32) (n N : Nat) : Nat → Int32 := va_cpy v (fun _ => 0) 0 0 (mn (nI n) (nI N)).toNatClampNeg
theorem mn_in {n N : Nat} (hn : n < 2 ^ 31) (hN : N < 2 ^ 31) : ¬ mn (nI n) (nI N) < 0 ∧ (mn (nI n) (nI N)).toNatClampNeg ≤ n ∧ (mn (nI n) (nI N)).toNatClampNeg ≤ N := by
  unfold mn
  by_cases h : N < n
  · rw [if_pos (nI_lt h hn), nI_clamp hN]; exact ⟨nI_pos hN, by omega, by omega⟩
  · rw [if_neg (nI_nlt (by omega) hN), nI_clamp hn]; exact ⟨nI_pos hn, by omega, by omega⟩
set_option maxRecDepth 100000 in
set_option maxHeartbeats 4000000 in
theorem c_Arrays_copyOf (l : Launch) (D : va_G) (cI cR cZ : ClassId) (g n : Nat) (v : Nat → Int32) (N : Nat) (hn : n ≤ 6400) (hN : N ≤ 6400) (hne : ¬ N = n) (sz : Nat) : Met l y_Arrays_copyOf (Cond.code y_Arrays_copyOf b_Arrays_copyOf 3 (some (.array .int)) :: BIG) (rm_Arrays_copyOf 1 N) (PcI [.ref g, .int (nI N)] D (tyG cI cR cZ) [(g, .inl (cI, n, .inl v))] sz) (QcR D (fun (_ : Unit) q => [(g, .inl (cI, n, .inl v)), (q, .inl (cI, N, .inl (cpO v n N)))]) (va_A [(g, .inl (cI, n, .inl v))] sz)) 1 N (va_A [(g, .inl (cI, n, .inl v))] sz) := by
  refine met_R (by decide) (Nat.le_of_ble_eq_true rfl) (fun p e s m args below meth c A hA C hr => ?_)
  have C : Cx p s m args meth c D (tyG cI cR cZ) b_Arrays_copyOf 3 "java/util/Arrays" := C
  have hm := mn_in (n := n) (N := N) (by omega) (by omega)
  show J p l e (rm_Arrays_copyOf 1 N) s m args below meth c D A (va_D A) 3 _ 0 0 [(g, .inl (cI, n, .inl v))] [(0, .ref g), (1, .int (nI N))] [] 0
  refine j_iload_n C 1 d_Arrays_copyOf_0 rfl ?_
  refine j_aload_n C 0 d_Arrays_copyOf_1 rfl ?_
  refine j_alen C 0 (t0 := 0) (v := nI n) rfl rfl rfl d_Arrays_copyOf_2 ?_
  refine j_icmp_ne C 14 d_Arrays_copyOf_3 (by decide) (fun _ => ?_) (fun c1 => absurd ((nI_eq (by omega) (by omega)).mp c1) hne)
  refine j_iload_n C 1 d_Arrays_copyOf_14 rfl ?_
  refine j_newa C hA (t0 := 0) (N := N) rfl (mb (by decide +kernel) rfl) (nI_pos (by omega)) (nI_clamp (by omega)) (by omega) (Nat.le_refl 1) (by show 0 + N ≤ N; omega) d_Arrays_copyOf_15 (fun q => ?_)
  refine j_astore_n C [(2, .ref q), (0, .ref g), (1, .int (nI N))] d_Arrays_copyOf_17 (by decide) rfl ?_
  refine j_aload_n C 1 d_Arrays_copyOf_18 rfl ?_
  refine j_iconst C (v := 0) d_Arrays_copyOf_19 (by decide) ?_
  refine j_aload_n C 0 d_Arrays_copyOf_20 rfl ?_
  refine j_iconst C (v := 0) d_Arrays_copyOf_21 (by decide) ?_
  refine j_aload_n C 1 d_Arrays_copyOf_22 rfl ?_
  refine j_alen C 0 (t0 := 0) (v := nI n) rfl rfl rfl d_Arrays_copyOf_23 ?_
  refine j_iload_n C 2 d_Arrays_copyOf_24 rfl ?_
  refine j_mmin C mw_Arrays_304 (Nat.le_of_ble_eq_true rfl) (Nat.le_of_ble_eq_true rfl) ⟨Nat.le_refl 1, by show 0 + N ≤ N; omega⟩ d_Arrays_copyOf_25 ?_
  refine j_copy C (mb (by decide +kernel) rfl) (mb (by decide +kernel) rfl) (mb (by decide +kernel) rfl) (mb (by decide +kernel) rfl) 0 1 [(g, .inl (cI, n, .inl v)), (q, .inl (cI, N, .inl (cpO v n N)))] (t0 := 0) rfl rfl rfl (by decide) (by decide) hm.1 (by rw [sb_cl0]; omega) (by rw [sb_cl0]; omega) (Nat.le_of_ble_eq_true rfl) (Nat.le_of_ble_eq_true rfl) rfl d_Arrays_copyOf_28 ?_
  refine j_aload_n C 0 d_Arrays_copyOf_31 rfl ?_
  refine j_widen (c2 := 1) (s2 := N) (by omega) (by omega) ?_
  exact j_aret C hr d_Arrays_copyOf_32 () rfl
def gN {α : Type} (len : Nat) (e : Int32) (k : Option α) : Option α := if len ≤ 6400 ∧ ¬ e < 0 ∧ e.toNatClampNeg ≤ 6400 ∧ ¬ e.toNatClampNeg = len then k else none
theorem gN_ok {α : Type} {len : Nat} {e : Int32} {k : Option α} {r : α} (h : gN len e k = some r) : (len ≤ 6400 ∧ ¬ e < 0 ∧ e.toNatClampNeg ≤ 6400 ∧ ¬ e.toNatClampNeg = len) ∧ k = some r := by
  unfold gN at h
  by_cases c : len ≤ 6400 ∧ ¬ e < 0 ∧ e.toNatClampNeg ≤ 6400 ∧ ¬ e.toNatClampNeg = len
  · rw [if_pos c] at h; exact ⟨c, h⟩
  · rw [if_neg c] at h; cases h
theorem gN_in {α : Type} {len : Nat} {e : Int32} {k : Option α} (h : len ≤ 6400 ∧ ¬ e < 0 ∧ e.toNatClampNeg ≤ 6400 ∧ ¬ e.toNatClampNeg = len) : gN len e k = k := if_pos h
theorem gN_nI {len : Nat} {e : Int32} (h : len ≤ 6400 ∧ ¬ e < 0 ∧ e.toNatClampNeg ≤ 6400 ∧ ¬ e.toNatClampNeg = len) : e = nI e.toNatClampNeg := by
  obtain ⟨j, hj, rfl⟩ := nI_of h.2.1
  rw [nI_clamp hj]
def ByteRow_append_b47 (B : ByS) (v1 : Int32) : Option ((ByS) × Nat × Nat) :=
  gd B.1 B.2.1 (some ((((((B.1, B.2.1, upd B.2.2 B.1.toNatClampNeg v1)).1) + 1, ((B.1, B.2.1, upd B.2.2 B.1.toNatClampNeg v1)).2)), 0, 0))
def ByteRow_append (B : ByS) (p1 : Int32) : Option ((ByS) × Nat × Nat) :=
  (ByteRow_room B).bind fun r1 =>
  (if 1 ≤ r1 then (if B.1 = (nI B.2.1) then gN B.2.1 (mn 6400 ((2 * B.1) + 64)) (ad 1 ((mn 6400 ((2 * B.1) + 64)).toNatClampNeg) (ByteRow_append_b47 ((B.1, (mn 6400 ((2 * B.1) + 64)).toNatClampNeg, cpO B.2.2 B.2.1 ((mn 6400 ((2 * B.1) + 64)).toNatClampNeg))) p1))
  else ByteRow_append_b47 B p1)
  else some ((B), 0, 0))
set_option maxRecDepth 100000 in
set_option maxHeartbeats 4000000 in
theorem t_ByteRow_append_b47 {p : Program} {l : Launch} {e : Env} {s : State} {m : MethodId} {args : Array Value} {below : List Frame} {meth : Method} {c : Code} {D : va_G} {cI cR cZ : ClassId} {A : Nat → Prop} {cT sT cs ss : Nat} (C : Cx p s m args meth c D (tyG cI cR cZ) b_ByteRow_append 2 "MaskLayers$ByteRow") (hr : meth.sig.returnType = none) (hA : ∀ q : Nat, s.heap.size ≤ q → A q) {b : Nat} {q : Nat} {B : ByS} {v1 : Int32} {res : ((ByS) × Nat × Nat)} (hcs : cs + res.2.1 ≤ cT) (hss : ss + res.2.2 ≤ sT) (h : ByteRow_append_b47 B v1 = some res) : J p l e (rm_ByteRow_append cT sT) s m args below meth c D A (va_D A) 2 (MQ below (QcV D (fun q9 : Nat => wBy cI b q9 res.1) A) args s cT sT A) cs ss (wBy cI b q B) [(0, .ref b), (1, .int v1)] [] 47 := by
  unfold ByteRow_append_b47 at h
  refine j_aload_n C 0 d_ByteRow_append_47 rfl ?_
  refine gf_ByteRow_9 C 0 (v := .ref q) rfl rfl d_ByteRow_append_48 ?_
  refine j_aload_n C 0 d_ByteRow_append_51 rfl ?_
  refine gf_ByteRow_15 C 0 (v := .int B.1) rfl rfl d_ByteRow_append_52 ?_
  refine j_iload_n C 1 d_ByteRow_append_55 rfl ?_
  obtain ⟨b2, h⟩ := gd_ok h
  refine j_iast C (1) (wBy cI b q ((B.1, B.2.1, upd B.2.2 B.1.toNatClampNeg v1))) (t0 := 0) rfl rfl rfl b2 d_ByteRow_append_56 ?_
  refine j_aload_n C 0 d_ByteRow_append_57 rfl ?_
  refine j_dup C d_ByteRow_append_58 rfl ?_
  refine gf_ByteRow_15 C 0 (v := .int (((B.1, B.2.1, upd B.2.2 B.1.toNatClampNeg v1)).1)) rfl rfl d_ByteRow_append_59 ?_
  refine j_iconst C (v := 1) d_ByteRow_append_62 (by decide) ?_
  refine j_iadd C d_ByteRow_append_63 ?_
  refine pf_ByteRow_15 C 0 (wBy cI b q (((((B.1, B.2.1, upd B.2.2 B.1.toNatClampNeg v1)).1) + 1, ((B.1, B.2.1, upd B.2.2 B.1.toNatClampNeg v1)).2))) rfl rfl rfl d_ByteRow_append_64 ?_
  obtain rfl := Option.some.inj h
  refine j_widen (c2 := cT) (s2 := sT) (by omega) (by omega) ?_
  exact j_vret C hr d_ByteRow_append_67 q rfl
set_option maxRecDepth 100000 in
set_option maxHeartbeats 4000000 in
theorem c_ByteRow_append (l : Launch) (D : va_G) (cI cR cZ : ClassId) (b : Nat) (q : Nat) (B : ByS) (p1 : Int32) {res : ((ByS) × Nat × Nat)} (h : ByteRow_append B p1 = some res) (sz : Nat) : Met l y_ByteRow_append (Cond.code y_ByteRow_append b_ByteRow_append 2 none :: BIG) (rm_ByteRow_append res.2.1 res.2.2) (PcI [.ref b, .int p1] D (tyG cI cR cZ) (wBy cI b q B) sz) (QcV D (fun q9 : Nat => wBy cI b q9 res.1) (va_A (wBy cI b q B) sz)) res.2.1 res.2.2 (va_A (wBy cI b q B) sz) := by
  refine met_V (by decide) (Nat.le_of_ble_eq_true rfl) (fun p e s m args below meth c A hA C hr => ?_)
  have C : Cx p s m args meth c D (tyG cI cR cZ) b_ByteRow_append 2 "MaskLayers$ByteRow" := C
  have hr : meth.sig.returnType = none := hr
  show J p l e (rm_ByteRow_append res.2.1 res.2.2) s m args below meth c D A (va_D A) 2 (MQ below (QcV D (fun q9 : Nat => wBy cI b q9 res.1) A) args s res.2.1 res.2.2 A) 0 0 (wBy cI b q B) [(0, .ref b), (1, .int p1)] [] 0
  unfold ByteRow_append at h
  refine j_aload_n C 0 d_ByteRow_append_0 rfl ?_
  obtain ⟨r1, hr1, h⟩ := bd_ok h
  refine j_PV C [] 0 rfl rfl (c_ByteRow_room l D cI cR cZ b q B hr1) (cw_ByteRow_23 C ⟨Nat.le_of_ble_eq_true rfl, Nat.le_of_ble_eq_true rfl⟩) [0, 1] rfl rfl rfl (Nat.le_of_ble_eq_true rfl) d_ByteRow_append_1 ⟨by show _ ≤ res.2.1; omega, by show _ ≤ res.2.2; omega⟩ ?_
  refine j_iconst C (v := 1) d_ByteRow_append_4 (by decide) ?_
  refine j_icmp_ge C 9 d_ByteRow_append_5 (by decide) (fun c6 => ?_) (fun c6 => ?_)
  · replace h := (if_pos c6).symm.trans h
    refine j_aload_n C 0 d_ByteRow_append_9 rfl ?_
    refine gf_ByteRow_15 C 0 (v := .int B.1) rfl rfl d_ByteRow_append_10 ?_
    refine j_aload_n C 0 d_ByteRow_append_13 rfl ?_
    refine gf_ByteRow_9 C 0 (v := .ref q) rfl rfl d_ByteRow_append_14 ?_
    refine j_alen C (1) (t0 := 0) (v := nI B.2.1) rfl rfl rfl d_ByteRow_append_17 ?_
    refine j_icmp_ne C 47 d_ByteRow_append_18 (by decide) (fun c5 => ?_) (fun c5 => ?_)
    · replace h := (if_neg c5).symm.trans h
      refine j_sub [0, 1] rfl ?_
      exact t_ByteRow_append_b47 C hr hA (by omega) (by omega) h
    · replace h := (if_pos c5).symm.trans h
      refine j_aload_n C 0 d_ByteRow_append_21 rfl ?_
      refine j_aload_n C 0 d_ByteRow_append_22 rfl ?_
      refine gf_ByteRow_9 C 0 (v := .ref q) rfl rfl d_ByteRow_append_23 ?_
      refine j_sipush C (v := 6400) d_ByteRow_append_26 (by decide) ?_
      refine j_iconst C (v := 2) d_ByteRow_append_29 (by decide) ?_
      refine j_aload_n C 0 d_ByteRow_append_30 rfl ?_
      refine gf_ByteRow_15 C 0 (v := .int B.1) rfl rfl d_ByteRow_append_31 ?_
      refine j_imul C d_ByteRow_append_34 ?_
      refine j_bipush C (v := 64) d_ByteRow_append_35 (by decide) ?_
      refine j_iadd C d_ByteRow_append_37 ?_
      refine j_mmin C mw_ByteRow_27 (Nat.le_of_ble_eq_true rfl) (Nat.le_of_ble_eq_true rfl) ⟨by show _ ≤ res.2.1; omega, by show _ ≤ res.2.2; omega⟩ d_ByteRow_append_38 ?_
      obtain ⟨b3, h⟩ := gN_ok h
      obtain ⟨zr4, h, ezr4, fzr4, gzr4⟩ := ad_ok h
      rw [show Value.int (mn 6400 ((2 * B.1) + 64)) = Value.int (nI ((mn 6400 ((2 * B.1) + 64)).toNatClampNeg)) from congrArg Value.int (gN_nI b3)]
      refine j_RS C [.ref q, .int (nI ((mn 6400 ((2 * B.1) + 64)).toNatClampNeg))] hA (c_Arrays_copyOf l D cI cR cZ q B.2.1 B.2.2 ((mn 6400 ((2 * B.1) + 64)).toNatClampNeg) b3.1 b3.2.2.1 b3.2.2.2) (cw_ByteRow_33 C ⟨Nat.le_of_ble_eq_true rfl, Nat.le_of_ble_eq_true rfl⟩) [1] [0] rfl rfl (by decide) (by decide) (by decide) rfl rfl (Nat.le_of_ble_eq_true rfl) d_ByteRow_append_41 ⟨by show _ ≤ res.2.1; omega, by show _ ≤ res.2.2; omega⟩ (fun _ qr4 => ?_)
      refine pf_ByteRow_9 C 0 _ rfl rfl rfl d_ByteRow_append_44 ?_
      refine j_perm [0, 2] (ws' := wBy cI b qr4 ((B.1, (mn 6400 ((2 * B.1) + 64)).toNatClampNeg, cpO B.2.2 B.2.1 ((mn 6400 ((2 * B.1) + 64)).toNatClampNeg)))) rfl (by decide) ?_
      refine j_sub [0, 1] rfl ?_
      rw [ezr4]
      exact t_ByteRow_append_b47 C hr hA (by omega) (by omega) h
  · replace h := (if_neg c6).symm.trans h
    obtain rfl := Option.some.inj h
    refine j_widen (c2 := 0) (s2 := 0) (by omega) (by omega) ?_
    exact j_vret C hr d_ByteRow_append_8 q rfl
end
section
def Writer_writeValue (n : Nat) (L : LyS) (B : ByS) (p1 : Int32) (p2 : Int32) : Option ((ByS) × Nat × Nat) :=
  (if p1 = 1 then (ML_blue p2).bind fun r1 =>
  (ByteRow_append B r1).bind fun r2 =>
  ad r2.2.1 r2.2.2 (some ((r2.1), 0, 0))
  else (ML_red p2).bind fun r3 =>
  (ByteRow_append B r3).bind fun r4 =>
  ad r4.2.1 r4.2.2 ((ML_green p2).bind fun r5 =>
  (ByteRow_append r4.1 r5).bind fun r6 =>
  ad r6.2.1 r6.2.2 ((ML_blue p2).bind fun r7 =>
  (ByteRow_append r6.1 r7).bind fun r8 =>
  ad r8.2.1 r8.2.2 (some ((r8.1), 0, 0)))))
set_option maxRecDepth 100000 in
set_option maxHeartbeats 4000000 in
theorem c_Writer_writeValue (l : Launch) (D : va_G) (cI cR cZ : ClassId) (o0 : Nat) (a : (Nat → Nat)) (n : Nat) (b : Nat) (q : Nat) (L : LyS) (B : ByS) (p1 : Int32) (p2 : Int32) {res : ((ByS) × Nat × Nat)} (h : Writer_writeValue n L B p1 p2 = some res) (sz : Nat) : Met l y_Writer_writeValue (Cond.code y_Writer_writeValue b_Writer_writeValue 3 none :: BIG) (rm_Writer_writeValue res.2.1 res.2.2) (PcI [.ref o0, .int p1, .int p2] D (tyG cI cR cZ) (wWr cI cR o0 a n b q L B) sz) (QcV D (fun q9 : Nat => wWr cI cR o0 a n b q9 L res.1) (va_A (wWr cI cR o0 a n b q L B) sz)) res.2.1 res.2.2 (va_A (wWr cI cR o0 a n b q L B) sz) := by
  refine met_V (by decide) (Nat.le_of_ble_eq_true rfl) (fun p e s m args below meth c A hA C hr => ?_)
  have C : Cx p s m args meth c D (tyG cI cR cZ) b_Writer_writeValue 3 "MaskLayers$Writer" := C
  have hr : meth.sig.returnType = none := hr
  show J p l e (rm_Writer_writeValue res.2.1 res.2.2) s m args below meth c D A (va_D A) 3 (MQ below (QcV D (fun q9 : Nat => wWr cI cR o0 a n b q9 L res.1) A) args s res.2.1 res.2.2 A) 0 0 (wWr cI cR o0 a n b q L B) [(0, .ref o0), (1, .int p1), (2, .int p2)] [] 0
  unfold Writer_writeValue at h
  refine j_iload_n C 1 d_Writer_writeValue_0 rfl ?_
  refine j_iconst C (v := 1) d_Writer_writeValue_1 (by decide) ?_
  refine j_icmp_eq C 27 d_Writer_writeValue_2 (by decide) (fun c9 => ?_) (fun c9 => ?_)
  · replace h := (if_pos c9).symm.trans h
    refine j_aload_n C 0 d_Writer_writeValue_27 rfl ?_
    refine gf_Writer_15 C 0 (v := .ref b) rfl rfl d_Writer_writeValue_28 ?_
    refine j_iload_n C 2 d_Writer_writeValue_31 rfl ?_
    obtain ⟨r1, hr1, h⟩ := bd_ok h
    refine j_PSN C [.int p2] (c_ML_blue l D cI cR cZ p2 hr1) (cw_Writer_109 C ⟨Nat.le_of_ble_eq_true rfl, Nat.le_of_ble_eq_true rfl⟩) [] rfl rfl rfl (Nat.le_of_ble_eq_true rfl) d_Writer_writeValue_32 ⟨by show _ ≤ res.2.1; omega, by show _ ≤ res.2.2; omega⟩ ?_
    obtain ⟨r2, hr2, h⟩ := bd_ok h
    obtain ⟨zr2, h, ezr2, fzr2, gzr2⟩ := ad_ok h
    refine j_VV C [.int r1] hA 10 rfl rfl (c_ByteRow_append l D cI cR cZ b q B r1 hr2) (cw_Writer_41 C ⟨Nat.le_of_ble_eq_true rfl, Nat.le_of_ble_eq_true rfl⟩) [10, 11] [0, 1, 2, 3, 4, 5, 6, 7, 8, 9] rfl rfl (by decide) (by decide) (by decide) rfl rfl (Nat.le_of_ble_eq_true rfl) d_Writer_writeValue_35 ⟨by show _ ≤ res.2.1; omega, by show _ ≤ res.2.2; omega⟩ (fun qr2 => ?_)
    refine j_ws (ws' := wWr cI cR o0 a n b qr2 L r2.1) rfl ?_
    obtain rfl := Option.some.inj h
    rw [ezr2]
    refine j_widen (c2 := res.2.1) (s2 := res.2.2) (by omega) (by omega) ?_
    exact j_vret C hr d_Writer_writeValue_38 qr2 rfl
  · replace h := (if_neg c9).symm.trans h
    refine j_aload_n C 0 d_Writer_writeValue_5 rfl ?_
    refine gf_Writer_15 C 0 (v := .ref b) rfl rfl d_Writer_writeValue_6 ?_
    refine j_iload_n C 2 d_Writer_writeValue_9 rfl ?_
    obtain ⟨r3, hr3, h⟩ := bd_ok h
    refine j_PSN C [.int p2] (c_ML_red l D cI cR cZ p2 hr3) (cw_Writer_103 C ⟨Nat.le_of_ble_eq_true rfl, Nat.le_of_ble_eq_true rfl⟩) [] rfl rfl rfl (Nat.le_of_ble_eq_true rfl) d_Writer_writeValue_10 ⟨by show _ ≤ res.2.1; omega, by show _ ≤ res.2.2; omega⟩ ?_
    obtain ⟨r4, hr4, h⟩ := bd_ok h
    obtain ⟨zr4, h, ezr4, fzr4, gzr4⟩ := ad_ok h
    refine j_VV C [.int r3] hA 10 rfl rfl (c_ByteRow_append l D cI cR cZ b q B r3 hr4) (cw_Writer_41 C ⟨Nat.le_of_ble_eq_true rfl, Nat.le_of_ble_eq_true rfl⟩) [10, 11] [0, 1, 2, 3, 4, 5, 6, 7, 8, 9] rfl rfl (by decide) (by decide) (by decide) rfl rfl (Nat.le_of_ble_eq_true rfl) d_Writer_writeValue_13 ⟨by show _ ≤ res.2.1; omega, by show _ ≤ res.2.2; omega⟩ (fun qr4 => ?_)
    refine j_ws (ws' := wWr cI cR o0 a n b qr4 L r4.1) rfl ?_
    refine j_aload_n C 0 d_Writer_writeValue_16 rfl ?_
    refine gf_Writer_15 C 0 (v := .ref b) rfl rfl d_Writer_writeValue_17 ?_
    refine j_iload_n C 2 d_Writer_writeValue_20 rfl ?_
    obtain ⟨r5, hr5, h⟩ := bd_ok h
    refine j_PSN C [.int p2] (c_ML_green l D cI cR cZ p2 hr5) (cw_Writer_106 C ⟨Nat.le_of_ble_eq_true rfl, Nat.le_of_ble_eq_true rfl⟩) [] rfl rfl rfl (Nat.le_of_ble_eq_true rfl) d_Writer_writeValue_21 ⟨by show _ ≤ res.2.1; omega, by show _ ≤ res.2.2; omega⟩ ?_
    obtain ⟨r6, hr6, h⟩ := bd_ok h
    obtain ⟨zr6, h, ezr6, fzr6, gzr6⟩ := ad_ok h
    refine j_VV C [.int r5] hA 10 rfl rfl (c_ByteRow_append l D cI cR cZ b qr4 r4.1 r5 hr6) (cw_Writer_41 C ⟨Nat.le_of_ble_eq_true rfl, Nat.le_of_ble_eq_true rfl⟩) [10, 11] [0, 1, 2, 3, 4, 5, 6, 7, 8, 9] rfl rfl (by decide) (by decide) (by decide) rfl rfl (Nat.le_of_ble_eq_true rfl) d_Writer_writeValue_24 ⟨by show _ ≤ res.2.1; omega, by show _ ≤ res.2.2; omega⟩ (fun qr6 => ?_)
    refine j_ws (ws' := wWr cI cR o0 a n b qr6 L r6.1) rfl ?_
    refine j_aload_n C 0 d_Writer_writeValue_27 rfl ?_
    refine gf_Writer_15 C 0 (v := .ref b) rfl rfl d_Writer_writeValue_28 ?_
    refine j_iload_n C 2 d_Writer_writeValue_31 rfl ?_
    obtain ⟨r7, hr7, h⟩ := bd_ok h
    refine j_PSN C [.int p2] (c_ML_blue l D cI cR cZ p2 hr7) (cw_Writer_109 C ⟨Nat.le_of_ble_eq_true rfl, Nat.le_of_ble_eq_true rfl⟩) [] rfl rfl rfl (Nat.le_of_ble_eq_true rfl) d_Writer_writeValue_32 ⟨by show _ ≤ res.2.1; omega, by show _ ≤ res.2.2; omega⟩ ?_
    obtain ⟨r8, hr8, h⟩ := bd_ok h
    obtain ⟨zr8, h, ezr8, fzr8, gzr8⟩ := ad_ok h
    refine j_VV C [.int r7] hA 10 rfl rfl (c_ByteRow_append l D cI cR cZ b qr6 r6.1 r7 hr8) (cw_Writer_41 C ⟨Nat.le_of_ble_eq_true rfl, Nat.le_of_ble_eq_true rfl⟩) [10, 11] [0, 1, 2, 3, 4, 5, 6, 7, 8, 9] rfl rfl (by decide) (by decide) (by decide) rfl rfl (Nat.le_of_ble_eq_true rfl) d_Writer_writeValue_35 ⟨by show _ ≤ res.2.1; omega, by show _ ≤ res.2.2; omega⟩ (fun qr8 => ?_)
    refine j_ws (ws' := wWr cI cR o0 a n b qr8 L r8.1) rfl ?_
    obtain rfl := Option.some.inj h
    rw [ezr4, ezr6, ezr8]
    refine j_widen (c2 := res.2.1) (s2 := res.2.2) (by omega) (by omega) ?_
    exact j_vret C hr d_Writer_writeValue_38 qr8 rfl
def Writer_writeValues_l3 (n : Nat) (L : LyS) (v1 : Int32) (v3 : Int32) : Nat → Int32 → ByS → Option ((Nat × ByS) × Nat × Nat)
  | 0, _, _ => none
  | k + 1, v4, B =>
  (if v3 ≤ v4 then some ((0, B), 0, 0)
  else gd v1 4 (gd v4 n ((Writer_writeValue n L B v1 (L.2 v1.toNatClampNeg v4.toNatClampNeg)).bind fun r3 =>
  ad r3.2.1 r3.2.2 (Writer_writeValues_l3 n L v1 v3 k (v4 + 1) r3.1))))
def Writer_writeValues (fu : Nat) (n : Nat) (L : LyS) (B : ByS) (p1 : Int32) (p2 : Int32) (p3 : Int32) : Option ((ByS) × Nat × Nat) :=
  (Writer_writeValues_l3 n L p1 p3 fu p2 B).bind fun r5 =>
  ad r5.2.1 r5.2.2 (some ((r5.1.2), 0, 0))
set_option maxRecDepth 100000 in
set_option maxHeartbeats 4000000 in
theorem t_Writer_writeValues_l3 {p : Program} {l : Launch} {e : Env} {s : State} {m : MethodId} {args : Array Value} {below : List Frame} {meth : Method} {c : Code} {D : va_G} {cI cR cZ : ClassId} {A : Nat → Prop} {cT sT : Nat} {Q : State → Prop} (C : Cx p s m args meth c D (tyG cI cR cZ) b_Writer_writeValues 5 "MaskLayers$Writer") (hA : ∀ q : Nat, s.heap.size ≤ q → A q) {o0 : Nat} {a : (Nat → Nat)} {n : Nat} {b : Nat} {L : LyS} {v1 : Int32} {v3 : Int32} : ∀ (k : Nat) (v4 : Int32) (B : ByS) (q cs ss : Nat) (out : (Nat × ByS) × Nat × Nat), Writer_writeValues_l3 n L v1 v3 k v4 B = some out → cs + out.2.1 ≤ cT → ss + out.2.2 ≤ sT → (∀ q9 : Nat, out.1.1 = 0 → J p l e (rm_Writer_writeValues cT sT) s m args below meth c D A (va_D A) 5 Q (cs + out.2.1) (ss + out.2.2) (wWr cI cR o0 a n b q9 L out.1.2) [] [] 32) → J p l e (rm_Writer_writeValues cT sT) s m args below meth c D A (va_D A) 5 Q cs ss (wWr cI cR o0 a n b q L B) [(0, .ref o0), (1, .int v1), (3, .int v3), (4, .int v4)] [] 3 := by
  intro k
  induction k with
  | zero => intro v4 B q cs ss out h; cases (show none = some out from h)
  | succ k ih =>
    intro v4 B q cs ss out h hcs hss x0
    rw [Writer_writeValues_l3] at h
    refine j_iload C 3 d_Writer_writeValues_3 rfl ?_
    refine j_iload_n C 2 d_Writer_writeValues_5 rfl ?_
    refine j_icmp_ge C 32 d_Writer_writeValues_6 (by decide) (fun c4 => ?_) (fun c4 => ?_)
    · replace h := (if_pos c4).symm.trans h
      obtain rfl := Option.some.inj h
      refine j_sub [] rfl ?_
      have X := x0 q (by rfl)
      exact j_widen (by omega) (by omega) X
    · replace h := (if_neg c4).symm.trans h
      refine j_aload_n C 0 d_Writer_writeValues_9 rfl ?_
      refine j_iload_n C 1 d_Writer_writeValues_10 rfl ?_
      refine j_aload_n C 0 d_Writer_writeValues_11 rfl ?_
      refine gf_Writer_9 C 0 (v := .ref (a 0)) rfl rfl d_Writer_writeValues_12 ?_
      refine gf_Writer_73 C 1 (v := .ref (a 1)) rfl rfl d_Writer_writeValues_15 ?_
      refine j_iload_n C 1 d_Writer_writeValues_18 rfl ?_
      obtain ⟨b1, h⟩ := gd_ok h
      refine j_aald C 2 (t0 := 2) rfl rfl b1 d_Writer_writeValues_19 ?_
      refine j_iload C 3 d_Writer_writeValues_20 rfl ?_
      obtain ⟨b2, h⟩ := gd_ok h
      refine j_iald C (3 + v1.toNatClampNeg) (t0 := 0) (co_4 (P := fun k => (wWr cI cR o0 a n b q L B)[3 + k]? = some (a (2 + k), .inl (cI, n, .inl (L.2 k)))) rfl rfl rfl rfl (in_lt b1)) rfl b2 d_Writer_writeValues_22 ?_
      obtain ⟨r3, hr3, h⟩ := bd_ok h
      obtain ⟨zr3, h, ezr3, fzr3, gzr3⟩ := ad_ok h
      refine j_VV C [.int v1, .int (L.2 v1.toNatClampNeg v4.toNatClampNeg)] hA 0 rfl rfl (c_Writer_writeValue l D cI cR cZ o0 a n b q L B v1 (L.2 v1.toNatClampNeg v4.toNatClampNeg) hr3) (cw_Writer_100 C ⟨Nat.le_of_ble_eq_true rfl, Nat.le_of_ble_eq_true rfl⟩) [0, 1, 2, 3, 4, 5, 6, 7, 8, 9, 10, 11] [] rfl rfl (by decide) (by decide) (by decide) rfl rfl (Nat.le_of_ble_eq_true rfl) d_Writer_writeValues_23 ⟨by show _ ≤ cT; omega, by show _ ≤ sT; omega⟩ (fun qr3 => ?_)
      refine j_ws (ws' := wWr cI cR o0 a n b qr3 L r3.1) rfl ?_
      refine j_iinc C [(4, .int (v4 + 1)), (0, .ref o0), (1, .int v1), (3, .int v3)] 3 (v4 + 1) d_Writer_writeValues_26 rfl rfl (by decide) rfl ?_
      refine j_goto C 3 d_Writer_writeValues_29 (by decide) ?_
      refine j_sub [1, 2, 3, 0] rfl ?_
      exact ih (v4 + 1) r3.1 qr3 (cs + r3.2.1) (ss + r3.2.2) _ h (by omega) (by omega) (fun q9 e9 => by have X := x0 q9 (by rw [ezr3]; exact e9); rw [ezr3] at X; exact j_widen (by omega) (by omega) X)
set_option maxRecDepth 100000 in
set_option maxHeartbeats 4000000 in
theorem c_Writer_writeValues (l : Launch) (D : va_G) (cI cR cZ : ClassId) (fu : Nat) (o0 : Nat) (a : (Nat → Nat)) (n : Nat) (b : Nat) (q : Nat) (L : LyS) (B : ByS) (p1 : Int32) (p2 : Int32) (p3 : Int32) {res : ((ByS) × Nat × Nat)} (h : Writer_writeValues fu n L B p1 p2 p3 = some res) (sz : Nat) : Met l y_Writer_writeValues (Cond.code y_Writer_writeValues b_Writer_writeValues 5 none :: BIG) (rm_Writer_writeValues res.2.1 res.2.2) (PcI [.ref o0, .int p1, .int p2, .int p3] D (tyG cI cR cZ) (wWr cI cR o0 a n b q L B) sz) (QcV D (fun q9 : Nat => wWr cI cR o0 a n b q9 L res.1) (va_A (wWr cI cR o0 a n b q L B) sz)) res.2.1 res.2.2 (va_A (wWr cI cR o0 a n b q L B) sz) := by
  refine met_V (by decide) (Nat.le_of_ble_eq_true rfl) (fun p e s m args below meth c A hA C hr => ?_)
  have C : Cx p s m args meth c D (tyG cI cR cZ) b_Writer_writeValues 5 "MaskLayers$Writer" := C
  have hr : meth.sig.returnType = none := hr
  show J p l e (rm_Writer_writeValues res.2.1 res.2.2) s m args below meth c D A (va_D A) 5 (MQ below (QcV D (fun q9 : Nat => wWr cI cR o0 a n b q9 L res.1) A) args s res.2.1 res.2.2 A) 0 0 (wWr cI cR o0 a n b q L B) [(0, .ref o0), (1, .int p1), (2, .int p2), (3, .int p3)] [] 0
  unfold Writer_writeValues at h
  refine j_iload_n C 2 d_Writer_writeValues_0 rfl ?_
  refine j_istore C [(4, .int p2), (0, .ref o0), (1, .int p1), (2, .int p2), (3, .int p3)] d_Writer_writeValues_1 (by decide) rfl ?_
  obtain ⟨r5, hr5, h⟩ := bd_ok h
  obtain ⟨zr5, h, ezr5, fzr5, gzr5⟩ := ad_ok h
  refine j_sub [1, 2, 4, 0] rfl ?_
  refine t_Writer_writeValues_l3 C hA fu p2 B q 0 0 _ hr5 (by omega) (by omega) (fun qr5 e6 => ?_)
  · obtain rfl := Option.some.inj h
    rw [ezr5]
    refine j_widen (c2 := res.2.1) (s2 := res.2.2) (by omega) (by omega) ?_
    exact j_vret C hr d_Writer_writeValues_32 qr5 rfl
def Writer_writeRuns_l17 (n : Nat) (L : LyS) (w4 : Nat) (v1 : Int32) (v3 : Int32) : Nat → Int32 → Int32 → ByS → Option ((Nat × ByS) × Nat × Nat)
  | 0, _, _, _ => none
  | k + 1, v5, v6, B =>
  (if v3 ≤ v6 then some ((0, B), 0, 0)
  else (Writer_runEnds n (L.2 w4) v6 v3 (v5 + 1)).bind fun r2 =>
  (if r2 = 0 then Writer_writeRuns_l17 n L w4 v1 v3 k (v5 + 1) (v6 + 1) B
  else (ByteRow_append B (v5 + 1)).bind fun r3 =>
  ad r3.2.1 r3.2.2 (gd v6 n ((Writer_writeValue n L r3.1 v1 (L.2 w4 v6.toNatClampNeg)).bind fun r5 =>
  ad r5.2.1 r5.2.2 (Writer_writeRuns_l17 n L w4 v1 v3 k 0 (v6 + 1) r5.1)))))
def Writer_writeRuns (fu : Nat) (n : Nat) (L : LyS) (B : ByS) (p1 : Int32) (p2 : Int32) (p3 : Int32) : Option ((ByS) × Nat × Nat) :=
  gd p1 4 ((Writer_writeRuns_l17 n L p1.toNatClampNeg p1 p3 fu 0 p2 B).bind fun r8 =>
  ad r8.2.1 r8.2.2 (some ((r8.1.2), 0, 0)))
set_option maxRecDepth 100000 in
set_option maxHeartbeats 4000000 in
theorem t_Writer_writeRuns_l17 {p : Program} {l : Launch} {e : Env} {s : State} {m : MethodId} {args : Array Value} {below : List Frame} {meth : Method} {c : Code} {D : va_G} {cI cR cZ : ClassId} {A : Nat → Prop} {cT sT : Nat} {Q : State → Prop} (C : Cx p s m args meth c D (tyG cI cR cZ) b_Writer_writeRuns 7 "MaskLayers$Writer") (hA : ∀ q : Nat, s.heap.size ≤ q → A q) {o0 : Nat} {a : (Nat → Nat)} {n : Nat} {b : Nat} {L : LyS} {w4 : Nat} (hw4 : w4 < 4) {v1 : Int32} {v3 : Int32} : ∀ (k : Nat) (v5 : Int32) (v6 : Int32) (B : ByS) (q cs ss : Nat) (out : (Nat × ByS) × Nat × Nat), Writer_writeRuns_l17 n L w4 v1 v3 k v5 v6 B = some out → cs + out.2.1 ≤ cT → ss + out.2.2 ≤ sT → (∀ q9 : Nat, out.1.1 = 0 → J p l e (rm_Writer_writeRuns cT sT) s m args below meth c D A (va_D A) 7 Q (cs + out.2.1) (ss + out.2.2) (wWr cI cR o0 a n b q9 L out.1.2) [] [] 67) → J p l e (rm_Writer_writeRuns cT sT) s m args below meth c D A (va_D A) 7 Q cs ss (wWr cI cR o0 a n b q L B) [(0, .ref o0), (1, .int v1), (3, .int v3), (4, .ref (a (2 + w4))), (5, .int v5), (6, .int v6)] [] 17 := by
  intro k
  induction k with
  | zero => intro v5 v6 B q cs ss out h; cases (show none = some out from h)
  | succ k ih =>
    intro v5 v6 B q cs ss out h hcs hss x0
    rw [Writer_writeRuns_l17] at h
    refine j_iload C 5 d_Writer_writeRuns_17 rfl ?_
    refine j_iload_n C 2 d_Writer_writeRuns_19 rfl ?_
    refine j_icmp_ge C 67 d_Writer_writeRuns_20 (by decide) (fun c7 => ?_) (fun c7 => ?_)
    · replace h := (if_pos c7).symm.trans h
      obtain rfl := Option.some.inj h
      refine j_sub [] rfl ?_
      have X := x0 q (by rfl)
      exact j_widen (by omega) (by omega) X
    · replace h := (if_neg c7).symm.trans h
      refine j_iinc C [(5, .int (v5 + 1)), (0, .ref o0), (1, .int v1), (3, .int v3), (4, .ref (a (2 + w4))), (6, .int v6)] 4 (v5 + 1) d_Writer_writeRuns_23 rfl rfl (by decide) rfl ?_
      refine j_aload C 4 d_Writer_writeRuns_26 rfl ?_
      refine j_iload C 5 d_Writer_writeRuns_28 rfl ?_
      refine j_iload_n C 3 d_Writer_writeRuns_30 rfl ?_
      refine j_iload C 0 d_Writer_writeRuns_31 rfl ?_
      obtain ⟨r2, hr2, h⟩ := bd_ok h
      refine j_PS C [.ref (a (2 + w4)), .int v6, .int v3, .int (v5 + 1)] (c_Writer_runEnds l D cI cR cZ (a (2 + w4)) n (L.2 w4) v6 v3 (v5 + 1) hr2) (cw_Writer_96 C ⟨Nat.le_of_ble_eq_true rfl, Nat.le_of_ble_eq_true rfl⟩) [3 + w4] (by rw [List.map_cons, List.map_nil, (co_4 (P := fun k => (wWr cI cR o0 a n b q L B)[3 + k]? = some (a (2 + k), .inl (cI, n, .inl (L.2 k)))) rfl rfl rfl rfl hw4)]; rfl) rfl rfl (Nat.le_of_ble_eq_true rfl) d_Writer_writeRuns_33 ⟨by show _ ≤ cT; omega, by show _ ≤ sT; omega⟩ ?_
      refine j_if_eq C 61 d_Writer_writeRuns_36 (by decide) (fun c6 => ?_) (fun c6 => ?_)
      · replace h := (if_pos c6).symm.trans h
        refine j_iinc C [(6, .int (v6 + 1)), (5, .int (v5 + 1)), (0, .ref o0), (1, .int v1), (3, .int v3), (4, .ref (a (2 + w4)))] 5 (v6 + 1) d_Writer_writeRuns_61 rfl rfl (by decide) rfl ?_
        refine j_goto C 17 d_Writer_writeRuns_64 (by decide) ?_
        refine j_sub [2, 3, 4, 5, 1, 0] rfl ?_
        exact ih (v5 + 1) (v6 + 1) B q cs ss _ h (by omega) (by omega) (fun q9 e9 => by have X := x0 q9 (by exact e9); exact j_widen (by omega) (by omega) X)
      · replace h := (if_neg c6).symm.trans h
        refine j_aload_n C 1 d_Writer_writeRuns_39 rfl ?_
        refine gf_Writer_15 C 0 (v := .ref b) rfl rfl d_Writer_writeRuns_40 ?_
        refine j_iload C 0 d_Writer_writeRuns_43 rfl ?_
        obtain ⟨r3, hr3, h⟩ := bd_ok h
        obtain ⟨zr3, h, ezr3, fzr3, gzr3⟩ := ad_ok h
        refine j_VV C [.int (v5 + 1)] hA 10 rfl rfl (c_ByteRow_append l D cI cR cZ b q B (v5 + 1) hr3) (cw_Writer_41 C ⟨Nat.le_of_ble_eq_true rfl, Nat.le_of_ble_eq_true rfl⟩) [10, 11] [0, 1, 2, 3, 4, 5, 6, 7, 8, 9] rfl rfl (by decide) (by decide) (by decide) rfl rfl (Nat.le_of_ble_eq_true rfl) d_Writer_writeRuns_45 ⟨by show _ ≤ cT; omega, by show _ ≤ sT; omega⟩ (fun qr3 => ?_)
        refine j_ws (ws' := wWr cI cR o0 a n b qr3 L r3.1) rfl ?_
        refine j_aload_n C 1 d_Writer_writeRuns_48 rfl ?_
        refine j_iload_n C 2 d_Writer_writeRuns_49 rfl ?_
        refine j_aload C 4 d_Writer_writeRuns_50 rfl ?_
        refine j_iload C 5 d_Writer_writeRuns_52 rfl ?_
        obtain ⟨b4, h⟩ := gd_ok h
        refine j_iald C (3 + w4) (t0 := 0) (co_4 (P := fun k => (wWr cI cR o0 a n b qr3 L r3.1)[3 + k]? = some (a (2 + k), .inl (cI, n, .inl (L.2 k)))) rfl rfl rfl rfl hw4) rfl b4 d_Writer_writeRuns_54 ?_
        obtain ⟨r5, hr5, h⟩ := bd_ok h
        obtain ⟨zr5, h, ezr5, fzr5, gzr5⟩ := ad_ok h
        refine j_VV C [.int v1, .int (L.2 w4 v6.toNatClampNeg)] hA 0 rfl rfl (c_Writer_writeValue l D cI cR cZ o0 a n b qr3 L r3.1 v1 (L.2 w4 v6.toNatClampNeg) hr5) (cw_Writer_100 C ⟨Nat.le_of_ble_eq_true rfl, Nat.le_of_ble_eq_true rfl⟩) [0, 1, 2, 3, 4, 5, 6, 7, 8, 9, 10, 11] [] rfl rfl (by decide) (by decide) (by decide) rfl rfl (Nat.le_of_ble_eq_true rfl) d_Writer_writeRuns_55 ⟨by show _ ≤ cT; omega, by show _ ≤ sT; omega⟩ (fun qr5 => ?_)
        refine j_ws (ws' := wWr cI cR o0 a n b qr5 L r5.1) rfl ?_
        refine j_iconst C (v := 0) d_Writer_writeRuns_58 (by decide) ?_
        refine j_istore C [(5, .int 0), (0, .ref o0), (1, .int v1), (3, .int v3), (4, .ref (a (2 + w4))), (6, .int v6)] d_Writer_writeRuns_59 (by decide) rfl ?_
        refine j_iinc C [(6, .int (v6 + 1)), (5, .int 0), (0, .ref o0), (1, .int v1), (3, .int v3), (4, .ref (a (2 + w4)))] 5 (v6 + 1) d_Writer_writeRuns_61 rfl rfl (by decide) rfl ?_
        refine j_goto C 17 d_Writer_writeRuns_64 (by decide) ?_
        refine j_sub [2, 3, 4, 5, 1, 0] rfl ?_
        exact ih 0 (v6 + 1) r5.1 qr5 ((cs + r3.2.1) + r5.2.1) ((ss + r3.2.2) + r5.2.2) _ h (by omega) (by omega) (fun q9 e9 => by have X := x0 q9 (by rw [ezr3, ezr5]; exact e9); rw [ezr3, ezr5] at X; exact j_widen (by omega) (by omega) X)
set_option maxRecDepth 100000 in
set_option maxHeartbeats 4000000 in
theorem c_Writer_writeRuns (l : Launch) (D : va_G) (cI cR cZ : ClassId) (fu : Nat) (o0 : Nat) (a : (Nat → Nat)) (n : Nat) (b : Nat) (q : Nat) (L : LyS) (B : ByS) (p1 : Int32) (p2 : Int32) (p3 : Int32) {res : ((ByS) × Nat × Nat)} (h : Writer_writeRuns fu n L B p1 p2 p3 = some res) (sz : Nat) : Met l y_Writer_writeRuns (Cond.code y_Writer_writeRuns b_Writer_writeRuns 7 none :: BIG) (rm_Writer_writeRuns res.2.1 res.2.2) (PcI [.ref o0, .int p1, .int p2, .int p3] D (tyG cI cR cZ) (wWr cI cR o0 a n b q L B) sz) (QcV D (fun q9 : Nat => wWr cI cR o0 a n b q9 L res.1) (va_A (wWr cI cR o0 a n b q L B) sz)) res.2.1 res.2.2 (va_A (wWr cI cR o0 a n b q L B) sz) := by
  refine met_V (by decide) (Nat.le_of_ble_eq_true rfl) (fun p e s m args below meth c A hA C hr => ?_)
  have C : Cx p s m args meth c D (tyG cI cR cZ) b_Writer_writeRuns 7 "MaskLayers$Writer" := C
  have hr : meth.sig.returnType = none := hr
  show J p l e (rm_Writer_writeRuns res.2.1 res.2.2) s m args below meth c D A (va_D A) 7 (MQ below (QcV D (fun q9 : Nat => wWr cI cR o0 a n b q9 L res.1) A) args s res.2.1 res.2.2 A) 0 0 (wWr cI cR o0 a n b q L B) [(0, .ref o0), (1, .int p1), (2, .int p2), (3, .int p3)] [] 0
  unfold Writer_writeRuns at h
  refine j_aload_n C 0 d_Writer_writeRuns_0 rfl ?_
  refine gf_Writer_9 C 0 (v := .ref (a 0)) rfl rfl d_Writer_writeRuns_1 ?_
  refine gf_Writer_73 C 1 (v := .ref (a 1)) rfl rfl d_Writer_writeRuns_4 ?_
  refine j_iload_n C 1 d_Writer_writeRuns_7 rfl ?_
  obtain ⟨b1, h⟩ := gd_ok h
  refine j_aald C 2 (t0 := 2) rfl rfl b1 d_Writer_writeRuns_8 ?_
  refine j_astore C [(4, .ref (a (2 + p1.toNatClampNeg))), (0, .ref o0), (1, .int p1), (2, .int p2), (3, .int p3)] d_Writer_writeRuns_9 (by decide) rfl ?_
  refine j_iconst C (v := 0) d_Writer_writeRuns_11 (by decide) ?_
  refine j_istore C [(5, .int 0), (4, .ref (a (2 + p1.toNatClampNeg))), (0, .ref o0), (1, .int p1), (2, .int p2), (3, .int p3)] d_Writer_writeRuns_12 (by decide) rfl ?_
  refine j_iload_n C 4 d_Writer_writeRuns_14 rfl ?_
  refine j_istore C [(6, .int p2), (5, .int 0), (4, .ref (a (2 + p1.toNatClampNeg))), (0, .ref o0), (1, .int p1), (2, .int p2), (3, .int p3)] d_Writer_writeRuns_15 (by decide) rfl ?_
  obtain ⟨r8, hr8, h⟩ := bd_ok h
  obtain ⟨zr8, h, ezr8, fzr8, gzr8⟩ := ad_ok h
  refine j_sub [3, 4, 6, 2, 1, 0] rfl ?_
  refine t_Writer_writeRuns_l17 C hA (in_lt b1) fu 0 p2 B q 0 0 _ hr8 (by omega) (by omega) (fun qr8 e9 => ?_)
  · obtain rfl := Option.some.inj h
    rw [ezr8]
    refine j_widen (c2 := res.2.1) (s2 := res.2.2) (by omega) (by omega) ?_
    exact j_vret C hr d_Writer_writeRuns_67 qr8 rfl
def Writer_writeBits_l26 (n : Nat) (L : LyS) (B : ByS) (w3 : Nat) (v2 : Int32) (v4 : Int32) : Nat → Int32 → Int32 → Option (Nat × Int32)
  | 0, _, _ => none
  | k + 1, v5, v6 =>
  (if (v4 + 8) ≤ v6 then some (0, v5)
  else (if v2 ≤ v6 then Writer_writeBits_l26 n L B w3 v2 v4 k ((v5 <<< ((1 : Int32) &&& 31)) ||| 0) (v6 + 1)
  else gd v6 n (Writer_writeBits_l26 n L B w3 v2 v4 k ((v5 <<< ((1 : Int32) &&& 31)) ||| (L.2 w3 v6.toNatClampNeg)) (v6 + 1))))
def Writer_writeBits_l13 (fu : Nat) (n : Nat) (L : LyS) (w3 : Nat) (v2 : Int32) : Nat → Int32 → ByS → Option ((Nat × ByS) × Nat × Nat)
  | 0, _, _ => none
  | k + 1, v4, B =>
  (if v2 ≤ v4 then some ((0, B), 0, 0)
  else (Writer_writeBits_l26 n L B w3 v2 v4 fu 0 v4).bind fun r5 =>
  (ByteRow_append B r5.2).bind fun r6 =>
  ad r6.2.1 r6.2.2 (Writer_writeBits_l13 fu n L w3 v2 k (v4 + 8) r6.1))
def Writer_writeBits (fu : Nat) (n : Nat) (L : LyS) (B : ByS) (p1 : Int32) (p2 : Int32) : Option ((ByS) × Nat × Nat) :=
  gd 1 4 ((Writer_writeBits_l13 fu n L ((1 : Int32).toNatClampNeg) p2 fu p1 B).bind fun r9 =>
  ad r9.2.1 r9.2.2 (some ((r9.1.2), 0, 0)))
set_option maxRecDepth 100000 in
set_option maxHeartbeats 4000000 in
theorem t_Writer_writeBits_l26 {p : Program} {l : Launch} {e : Env} {s : State} {m : MethodId} {args : Array Value} {below : List Frame} {meth : Method} {c : Code} {D : va_G} {cI cR cZ : ClassId} {A : Nat → Prop} {cT sT cs ss : Nat} {Q : State → Prop} (C : Cx p s m args meth c D (tyG cI cR cZ) b_Writer_writeBits 7 "MaskLayers$Writer") (hA : ∀ q : Nat, s.heap.size ≤ q → A q) {o0 : Nat} {a : (Nat → Nat)} {n : Nat} {b : Nat} {q : Nat} {L : LyS} {B : ByS} {w3 : Nat} (hw3 : w3 < 4) {v2 : Int32} {v4 : Int32} {out : Nat × Int32} : ∀ (k : Nat) (v5 : Int32) (v6 : Int32), Writer_writeBits_l26 n L B w3 v2 v4 k v5 v6 = some out → cs ≤ cT → ss ≤ sT → (out.1 = 0 → J p l e (rm_Writer_writeBits cT sT) s m args below meth c D A (va_D A) 7 Q cs ss (wWr cI cR o0 a n b q L B) [(0, .ref o0), (2, .int v2), (3, .ref (a (2 + w3))), (4, .int v4), (5, .int out.2)] [] 63) → J p l e (rm_Writer_writeBits cT sT) s m args below meth c D A (va_D A) 7 Q cs ss (wWr cI cR o0 a n b q L B) [(0, .ref o0), (2, .int v2), (3, .ref (a (2 + w3))), (4, .int v4), (5, .int v5), (6, .int v6)] [] 26 := by
  intro k
  induction k with
  | zero => intro v5 v6 h; cases (show none = some out from h)
  | succ k ih =>
    intro v5 v6 h hcs hss x0
    rw [Writer_writeBits_l26] at h
    refine j_iload C 5 d_Writer_writeBits_26 rfl ?_
    refine j_iload C 3 d_Writer_writeBits_28 rfl ?_
    refine j_bipush C (v := 8) d_Writer_writeBits_30 (by decide) ?_
    refine j_iadd C d_Writer_writeBits_32 ?_
    refine j_icmp_ge C 63 d_Writer_writeBits_33 (by decide) (fun c4 => ?_) (fun c4 => ?_)
    · replace h := (if_pos c4).symm.trans h
      obtain rfl := Option.some.inj h
      refine j_sub [0, 1, 2, 3, 4] rfl ?_
      exact x0 rfl
    · replace h := (if_neg c4).symm.trans h
      refine j_iload C 4 d_Writer_writeBits_36 rfl ?_
      refine j_iconst C (v := 1) d_Writer_writeBits_38 (by decide) ?_
      refine j_ishl C d_Writer_writeBits_39 ?_
      refine j_iload C 5 d_Writer_writeBits_40 rfl ?_
      refine j_iload_n C 1 d_Writer_writeBits_42 rfl ?_
      refine j_icmp_ge C 53 d_Writer_writeBits_43 (by decide) (fun c3 => ?_) (fun c3 => ?_)
      · replace h := (if_pos c3).symm.trans h
        refine j_iconst C (v := 0) d_Writer_writeBits_53 (by decide) ?_
        refine j_ior C d_Writer_writeBits_54 ?_
        refine j_istore C [(5, .int ((v5 <<< ((1 : Int32) &&& 31)) ||| 0)), (0, .ref o0), (2, .int v2), (3, .ref (a (2 + w3))), (4, .int v4), (6, .int v6)] d_Writer_writeBits_55 (by decide) rfl ?_
        refine j_iinc C [(6, .int (v6 + 1)), (5, .int ((v5 <<< ((1 : Int32) &&& 31)) ||| 0)), (0, .ref o0), (2, .int v2), (3, .ref (a (2 + w3))), (4, .int v4)] 5 (v6 + 1) d_Writer_writeBits_57 rfl rfl (by decide) rfl ?_
        refine j_goto C 26 d_Writer_writeBits_60 (by decide) ?_
        refine j_sub [2, 3, 4, 5, 1, 0] rfl ?_
        exact ih ((v5 <<< ((1 : Int32) &&& 31)) ||| 0) (v6 + 1) h hcs hss x0
      · replace h := (if_neg c3).symm.trans h
        refine j_aload_n C 2 d_Writer_writeBits_46 rfl ?_
        refine j_iload C 5 d_Writer_writeBits_47 rfl ?_
        obtain ⟨b2, h⟩ := gd_ok h
        refine j_iald C (3 + w3) (t0 := 0) (co_4 (P := fun k => (wWr cI cR o0 a n b q L B)[3 + k]? = some (a (2 + k), .inl (cI, n, .inl (L.2 k)))) rfl rfl rfl rfl hw3) rfl b2 d_Writer_writeBits_49 ?_
        refine j_goto C 54 d_Writer_writeBits_50 (by decide) ?_
        refine j_ior C d_Writer_writeBits_54 ?_
        refine j_istore C [(5, .int ((v5 <<< ((1 : Int32) &&& 31)) ||| (L.2 w3 v6.toNatClampNeg))), (0, .ref o0), (2, .int v2), (3, .ref (a (2 + w3))), (4, .int v4), (6, .int v6)] d_Writer_writeBits_55 (by decide) rfl ?_
        refine j_iinc C [(6, .int (v6 + 1)), (5, .int ((v5 <<< ((1 : Int32) &&& 31)) ||| (L.2 w3 v6.toNatClampNeg))), (0, .ref o0), (2, .int v2), (3, .ref (a (2 + w3))), (4, .int v4)] 5 (v6 + 1) d_Writer_writeBits_57 rfl rfl (by decide) rfl ?_
        refine j_goto C 26 d_Writer_writeBits_60 (by decide) ?_
        refine j_sub [2, 3, 4, 5, 1, 0] rfl ?_
        exact ih ((v5 <<< ((1 : Int32) &&& 31)) ||| (L.2 w3 v6.toNatClampNeg)) (v6 + 1) h hcs hss x0
set_option maxRecDepth 100000 in
set_option maxHeartbeats 4000000 in
theorem t_Writer_writeBits_l13 {p : Program} {l : Launch} {e : Env} {s : State} {m : MethodId} {args : Array Value} {below : List Frame} {meth : Method} {c : Code} {D : va_G} {cI cR cZ : ClassId} {A : Nat → Prop} {cT sT : Nat} {Q : State → Prop} (C : Cx p s m args meth c D (tyG cI cR cZ) b_Writer_writeBits 7 "MaskLayers$Writer") (hA : ∀ q : Nat, s.heap.size ≤ q → A q) {o0 : Nat} {a : (Nat → Nat)} {n : Nat} {b : Nat} {fu : Nat} {L : LyS} {w3 : Nat} (hw3 : w3 < 4) {v2 : Int32} : ∀ (k : Nat) (v4 : Int32) (B : ByS) (q cs ss : Nat) (out : (Nat × ByS) × Nat × Nat), Writer_writeBits_l13 fu n L w3 v2 k v4 B = some out → cs + out.2.1 ≤ cT → ss + out.2.2 ≤ sT → (∀ q9 : Nat, out.1.1 = 0 → J p l e (rm_Writer_writeBits cT sT) s m args below meth c D A (va_D A) 7 Q (cs + out.2.1) (ss + out.2.2) (wWr cI cR o0 a n b q9 L out.1.2) [] [] 78) → J p l e (rm_Writer_writeBits cT sT) s m args below meth c D A (va_D A) 7 Q cs ss (wWr cI cR o0 a n b q L B) [(0, .ref o0), (2, .int v2), (3, .ref (a (2 + w3))), (4, .int v4)] [] 13 := by
  intro k
  induction k with
  | zero => intro v4 B q cs ss out h; cases (show none = some out from h)
  | succ k ih =>
    intro v4 B q cs ss out h hcs hss x0
    rw [Writer_writeBits_l13] at h
    refine j_iload C 3 d_Writer_writeBits_13 rfl ?_
    refine j_iload_n C 1 d_Writer_writeBits_15 rfl ?_
    refine j_icmp_ge C 78 d_Writer_writeBits_16 (by decide) (fun c8 => ?_) (fun c8 => ?_)
    · replace h := (if_pos c8).symm.trans h
      obtain rfl := Option.some.inj h
      refine j_sub [] rfl ?_
      have X := x0 q (by rfl)
      exact j_widen (by omega) (by omega) X
    · replace h := (if_neg c8).symm.trans h
      refine j_iconst C (v := 0) d_Writer_writeBits_19 (by decide) ?_
      refine j_istore C [(5, .int 0), (0, .ref o0), (2, .int v2), (3, .ref (a (2 + w3))), (4, .int v4)] d_Writer_writeBits_20 (by decide) rfl ?_
      refine j_iload C 4 d_Writer_writeBits_22 rfl ?_
      refine j_istore C [(6, .int v4), (5, .int 0), (0, .ref o0), (2, .int v2), (3, .ref (a (2 + w3))), (4, .int v4)] d_Writer_writeBits_24 (by decide) rfl ?_
      obtain ⟨r5, hr5, h⟩ := bd_ok h
      refine j_sub [2, 3, 4, 5, 1, 0] rfl ?_
      refine t_Writer_writeBits_l26 C hA hw3 fu 0 v4 hr5 (by omega) (by omega) (fun e7 => ?_)
      · refine j_aload_n C 0 d_Writer_writeBits_63 rfl ?_
        refine gf_Writer_15 C 0 (v := .ref b) rfl rfl d_Writer_writeBits_64 ?_
        refine j_iload C 4 d_Writer_writeBits_67 rfl ?_
        obtain ⟨r6, hr6, h⟩ := bd_ok h
        obtain ⟨zr6, h, ezr6, fzr6, gzr6⟩ := ad_ok h
        refine j_VV C [.int r5.2] hA 10 rfl rfl (c_ByteRow_append l D cI cR cZ b q B r5.2 hr6) (cw_Writer_41 C ⟨Nat.le_of_ble_eq_true rfl, Nat.le_of_ble_eq_true rfl⟩) [10, 11] [0, 1, 2, 3, 4, 5, 6, 7, 8, 9] rfl rfl (by decide) (by decide) (by decide) rfl rfl (Nat.le_of_ble_eq_true rfl) d_Writer_writeBits_69 ⟨by show _ ≤ cT; omega, by show _ ≤ sT; omega⟩ (fun qr6 => ?_)
        refine j_ws (ws' := wWr cI cR o0 a n b qr6 L r6.1) rfl ?_
        refine j_iinc C [(4, .int (v4 + 8)), (0, .ref o0), (2, .int v2), (3, .ref (a (2 + w3))), (5, .int r5.2)] 3 (v4 + 8) d_Writer_writeBits_72 rfl rfl (by decide) rfl ?_
        refine j_goto C 13 d_Writer_writeBits_75 (by decide) ?_
        refine j_sub [1, 2, 3, 0] rfl ?_
        exact ih (v4 + 8) r6.1 qr6 (cs + r6.2.1) (ss + r6.2.2) _ h (by omega) (by omega) (fun q9 e9 => by have X := x0 q9 (by rw [ezr6]; exact e9); rw [ezr6] at X; exact j_widen (by omega) (by omega) X)
set_option maxRecDepth 100000 in
set_option maxHeartbeats 4000000 in
theorem c_Writer_writeBits (l : Launch) (D : va_G) (cI cR cZ : ClassId) (fu : Nat) (o0 : Nat) (a : (Nat → Nat)) (n : Nat) (b : Nat) (q : Nat) (L : LyS) (B : ByS) (p1 : Int32) (p2 : Int32) {res : ((ByS) × Nat × Nat)} (h : Writer_writeBits fu n L B p1 p2 = some res) (sz : Nat) : Met l y_Writer_writeBits (Cond.code y_Writer_writeBits b_Writer_writeBits 7 none :: BIG) (rm_Writer_writeBits res.2.1 res.2.2) (PcI [.ref o0, .int p1, .int p2] D (tyG cI cR cZ) (wWr cI cR o0 a n b q L B) sz) (QcV D (fun q9 : Nat => wWr cI cR o0 a n b q9 L res.1) (va_A (wWr cI cR o0 a n b q L B) sz)) res.2.1 res.2.2 (va_A (wWr cI cR o0 a n b q L B) sz) := by
  refine met_V (by decide) (Nat.le_of_ble_eq_true rfl) (fun p e s m args below meth c A hA C hr => ?_)
  have C : Cx p s m args meth c D (tyG cI cR cZ) b_Writer_writeBits 7 "MaskLayers$Writer" := C
  have hr : meth.sig.returnType = none := hr
  show J p l e (rm_Writer_writeBits res.2.1 res.2.2) s m args below meth c D A (va_D A) 7 (MQ below (QcV D (fun q9 : Nat => wWr cI cR o0 a n b q9 L res.1) A) args s res.2.1 res.2.2 A) 0 0 (wWr cI cR o0 a n b q L B) [(0, .ref o0), (1, .int p1), (2, .int p2)] [] 0
  unfold Writer_writeBits at h
  refine j_aload_n C 0 d_Writer_writeBits_0 rfl ?_
  refine gf_Writer_9 C 0 (v := .ref (a 0)) rfl rfl d_Writer_writeBits_1 ?_
  refine gf_Writer_73 C 1 (v := .ref (a 1)) rfl rfl d_Writer_writeBits_4 ?_
  refine j_iconst C (v := 1) d_Writer_writeBits_7 (by decide) ?_
  obtain ⟨b1, h⟩ := gd_ok h
  refine j_aald C 2 (t0 := 2) rfl rfl b1 d_Writer_writeBits_8 ?_
  refine j_astore_n C [(3, .ref (a (2 + (1 : Int32).toNatClampNeg))), (0, .ref o0), (1, .int p1), (2, .int p2)] d_Writer_writeBits_9 (by decide) rfl ?_
  refine j_iload_n C 2 d_Writer_writeBits_10 rfl ?_
  refine j_istore C [(4, .int p1), (3, .ref (a (2 + (1 : Int32).toNatClampNeg))), (0, .ref o0), (1, .int p1), (2, .int p2)] d_Writer_writeBits_11 (by decide) rfl ?_
  obtain ⟨r9, hr9, h⟩ := bd_ok h
  obtain ⟨zr9, h, ezr9, fzr9, gzr9⟩ := ad_ok h
  refine j_sub [2, 4, 1, 0] rfl ?_
  refine t_Writer_writeBits_l13 C hA (in_lt b1) fu p1 B q 0 0 _ hr9 (by omega) (by omega) (fun qr9 e10 => ?_)
  · obtain rfl := Option.some.inj h
    rw [ezr9]
    refine j_widen (c2 := res.2.1) (s2 := res.2.2) (by omega) (by omega) ?_
    exact j_vret C hr d_Writer_writeBits_78 qr9 rfl
end
section
def Writer_writeHead (n : Nat) (L : LyS) (B : ByS) : Option ((ByS) × Nat × Nat) :=
  (ByteRow_append B 77).bind fun r1 =>
  ad r1.2.1 r1.2.2 ((ByteRow_append r1.1 76).bind fun r2 =>
  ad r2.2.1 r2.2.2 ((ByteRow_append r2.1 (L.1 0)).bind fun r3 =>
  ad r3.2.1 r3.2.2 ((ByteRow_append r3.1 (L.1 1)).bind fun r4 =>
  ad r4.2.1 r4.2.2 ((ByteRow_append r4.1 (L.1 2)).bind fun r5 =>
  ad r5.2.1 r5.2.2 (gd 2 4 ((ByteRow_append r5.1 (L.2 5 ((2 : Int32).toNatClampNeg))).bind fun r7 =>
  ad r7.2.1 r7.2.2 (gd 0 4 ((ByteRow_append r7.1 (L.2 5 ((0 : Int32).toNatClampNeg))).bind fun r9 =>
  ad r9.2.1 r9.2.2 (some ((r9.1), 0, 0))))))))))
set_option maxRecDepth 100000 in
set_option maxHeartbeats 4000000 in
theorem c_Writer_writeHead (l : Launch) (D : va_G) (cI cR cZ : ClassId) (o0 : Nat) (a : (Nat → Nat)) (n : Nat) (b : Nat) (q : Nat) (L : LyS) (B : ByS) {res : ((ByS) × Nat × Nat)} (h : Writer_writeHead n L B = some res) (sz : Nat) : Met l y_Writer_writeHead (Cond.code y_Writer_writeHead b_Writer_writeHead 1 none :: BIG) (rm_Writer_writeHead res.2.1 res.2.2) (PcI [.ref o0] D (tyG cI cR cZ) (wWr cI cR o0 a n b q L B) sz) (QcV D (fun q9 : Nat => wWr cI cR o0 a n b q9 L res.1) (va_A (wWr cI cR o0 a n b q L B) sz)) res.2.1 res.2.2 (va_A (wWr cI cR o0 a n b q L B) sz) := by
  refine met_V (by decide) (Nat.le_of_ble_eq_true rfl) (fun p e s m args below meth c A hA C hr => ?_)
  have C : Cx p s m args meth c D (tyG cI cR cZ) b_Writer_writeHead 1 "MaskLayers$Writer" := C
  have hr : meth.sig.returnType = none := hr
  show J p l e (rm_Writer_writeHead res.2.1 res.2.2) s m args below meth c D A (va_D A) 1 (MQ below (QcV D (fun q9 : Nat => wWr cI cR o0 a n b q9 L res.1) A) args s res.2.1 res.2.2 A) 0 0 (wWr cI cR o0 a n b q L B) [(0, .ref o0)] [] 0
  unfold Writer_writeHead at h
  refine j_aload_n C 0 d_Writer_writeHead_0 rfl ?_
  refine gf_Writer_15 C 0 (v := .ref b) rfl rfl d_Writer_writeHead_1 ?_
  refine j_bipush C (v := 77) d_Writer_writeHead_4 (by decide) ?_
  obtain ⟨r1, hr1, h⟩ := bd_ok h
  obtain ⟨zr1, h, ezr1, fzr1, gzr1⟩ := ad_ok h
  refine j_VV C [.int 77] hA 10 rfl rfl (c_ByteRow_append l D cI cR cZ b q B 77 hr1) (cw_Writer_41 C ⟨Nat.le_of_ble_eq_true rfl, Nat.le_of_ble_eq_true rfl⟩) [10, 11] [0, 1, 2, 3, 4, 5, 6, 7, 8, 9] rfl rfl (by decide) (by decide) (by decide) rfl rfl (Nat.le_of_ble_eq_true rfl) d_Writer_writeHead_6 ⟨by show _ ≤ res.2.1; omega, by show _ ≤ res.2.2; omega⟩ (fun qr1 => ?_)
  refine j_ws (ws' := wWr cI cR o0 a n b qr1 L r1.1) rfl ?_
  refine j_aload_n C 0 d_Writer_writeHead_9 rfl ?_
  refine gf_Writer_15 C 0 (v := .ref b) rfl rfl d_Writer_writeHead_10 ?_
  refine j_bipush C (v := 76) d_Writer_writeHead_13 (by decide) ?_
  obtain ⟨r2, hr2, h⟩ := bd_ok h
  obtain ⟨zr2, h, ezr2, fzr2, gzr2⟩ := ad_ok h
  refine j_VV C [.int 76] hA 10 rfl rfl (c_ByteRow_append l D cI cR cZ b qr1 r1.1 76 hr2) (cw_Writer_41 C ⟨Nat.le_of_ble_eq_true rfl, Nat.le_of_ble_eq_true rfl⟩) [10, 11] [0, 1, 2, 3, 4, 5, 6, 7, 8, 9] rfl rfl (by decide) (by decide) (by decide) rfl rfl (Nat.le_of_ble_eq_true rfl) d_Writer_writeHead_15 ⟨by show _ ≤ res.2.1; omega, by show _ ≤ res.2.2; omega⟩ (fun qr2 => ?_)
  refine j_ws (ws' := wWr cI cR o0 a n b qr2 L r2.1) rfl ?_
  refine j_aload_n C 0 d_Writer_writeHead_18 rfl ?_
  refine gf_Writer_15 C 0 (v := .ref b) rfl rfl d_Writer_writeHead_19 ?_
  refine j_aload_n C 0 d_Writer_writeHead_22 rfl ?_
  refine gf_Writer_9 C 0 (v := .ref (a 0)) rfl rfl d_Writer_writeHead_23 ?_
  refine gf_Writer_49 C 1 (v := .int (L.1 0)) rfl rfl d_Writer_writeHead_26 ?_
  obtain ⟨r3, hr3, h⟩ := bd_ok h
  obtain ⟨zr3, h, ezr3, fzr3, gzr3⟩ := ad_ok h
  refine j_VV C [.int (L.1 0)] hA 10 rfl rfl (c_ByteRow_append l D cI cR cZ b qr2 r2.1 (L.1 0) hr3) (cw_Writer_41 C ⟨Nat.le_of_ble_eq_true rfl, Nat.le_of_ble_eq_true rfl⟩) [10, 11] [0, 1, 2, 3, 4, 5, 6, 7, 8, 9] rfl rfl (by decide) (by decide) (by decide) rfl rfl (Nat.le_of_ble_eq_true rfl) d_Writer_writeHead_29 ⟨by show _ ≤ res.2.1; omega, by show _ ≤ res.2.2; omega⟩ (fun qr3 => ?_)
  refine j_ws (ws' := wWr cI cR o0 a n b qr3 L r3.1) rfl ?_
  refine j_aload_n C 0 d_Writer_writeHead_32 rfl ?_
  refine gf_Writer_15 C 0 (v := .ref b) rfl rfl d_Writer_writeHead_33 ?_
  refine j_aload_n C 0 d_Writer_writeHead_36 rfl ?_
  refine gf_Writer_9 C 0 (v := .ref (a 0)) rfl rfl d_Writer_writeHead_37 ?_
  refine gf_Writer_52 C 1 (v := .int (L.1 1)) rfl rfl d_Writer_writeHead_40 ?_
  obtain ⟨r4, hr4, h⟩ := bd_ok h
  obtain ⟨zr4, h, ezr4, fzr4, gzr4⟩ := ad_ok h
  refine j_VV C [.int (L.1 1)] hA 10 rfl rfl (c_ByteRow_append l D cI cR cZ b qr3 r3.1 (L.1 1) hr4) (cw_Writer_41 C ⟨Nat.le_of_ble_eq_true rfl, Nat.le_of_ble_eq_true rfl⟩) [10, 11] [0, 1, 2, 3, 4, 5, 6, 7, 8, 9] rfl rfl (by decide) (by decide) (by decide) rfl rfl (Nat.le_of_ble_eq_true rfl) d_Writer_writeHead_43 ⟨by show _ ≤ res.2.1; omega, by show _ ≤ res.2.2; omega⟩ (fun qr4 => ?_)
  refine j_ws (ws' := wWr cI cR o0 a n b qr4 L r4.1) rfl ?_
  refine j_aload_n C 0 d_Writer_writeHead_46 rfl ?_
  refine gf_Writer_15 C 0 (v := .ref b) rfl rfl d_Writer_writeHead_47 ?_
  refine j_aload_n C 0 d_Writer_writeHead_50 rfl ?_
  refine gf_Writer_9 C 0 (v := .ref (a 0)) rfl rfl d_Writer_writeHead_51 ?_
  refine gf_Writer_55 C 1 (v := .int (L.1 2)) rfl rfl d_Writer_writeHead_54 ?_
  obtain ⟨r5, hr5, h⟩ := bd_ok h
  obtain ⟨zr5, h, ezr5, fzr5, gzr5⟩ := ad_ok h
  refine j_VV C [.int (L.1 2)] hA 10 rfl rfl (c_ByteRow_append l D cI cR cZ b qr4 r4.1 (L.1 2) hr5) (cw_Writer_41 C ⟨Nat.le_of_ble_eq_true rfl, Nat.le_of_ble_eq_true rfl⟩) [10, 11] [0, 1, 2, 3, 4, 5, 6, 7, 8, 9] rfl rfl (by decide) (by decide) (by decide) rfl rfl (Nat.le_of_ble_eq_true rfl) d_Writer_writeHead_57 ⟨by show _ ≤ res.2.1; omega, by show _ ≤ res.2.2; omega⟩ (fun qr5 => ?_)
  refine j_ws (ws' := wWr cI cR o0 a n b qr5 L r5.1) rfl ?_
  refine j_aload_n C 0 d_Writer_writeHead_60 rfl ?_
  refine gf_Writer_15 C 0 (v := .ref b) rfl rfl d_Writer_writeHead_61 ?_
  refine j_aload_n C 0 d_Writer_writeHead_64 rfl ?_
  refine gf_Writer_9 C 0 (v := .ref (a 0)) rfl rfl d_Writer_writeHead_65 ?_
  refine gf_Writer_58 C 1 (v := .ref (a 7)) rfl rfl d_Writer_writeHead_68 ?_
  refine j_iconst C (v := 2) d_Writer_writeHead_71 (by decide) ?_
  obtain ⟨b6, h⟩ := gd_ok h
  refine j_iald C (8) (t0 := 0) rfl rfl b6 d_Writer_writeHead_72 ?_
  obtain ⟨r7, hr7, h⟩ := bd_ok h
  obtain ⟨zr7, h, ezr7, fzr7, gzr7⟩ := ad_ok h
  refine j_VV C [.int (L.2 5 ((2 : Int32).toNatClampNeg))] hA 10 rfl rfl (c_ByteRow_append l D cI cR cZ b qr5 r5.1 (L.2 5 ((2 : Int32).toNatClampNeg)) hr7) (cw_Writer_41 C ⟨Nat.le_of_ble_eq_true rfl, Nat.le_of_ble_eq_true rfl⟩) [10, 11] [0, 1, 2, 3, 4, 5, 6, 7, 8, 9] rfl rfl (by decide) (by decide) (by decide) rfl rfl (Nat.le_of_ble_eq_true rfl) d_Writer_writeHead_73 ⟨by show _ ≤ res.2.1; omega, by show _ ≤ res.2.2; omega⟩ (fun qr7 => ?_)
  refine j_ws (ws' := wWr cI cR o0 a n b qr7 L r7.1) rfl ?_
  refine j_aload_n C 0 d_Writer_writeHead_76 rfl ?_
  refine gf_Writer_15 C 0 (v := .ref b) rfl rfl d_Writer_writeHead_77 ?_
  refine j_aload_n C 0 d_Writer_writeHead_80 rfl ?_
  refine gf_Writer_9 C 0 (v := .ref (a 0)) rfl rfl d_Writer_writeHead_81 ?_
  refine gf_Writer_58 C 1 (v := .ref (a 7)) rfl rfl d_Writer_writeHead_84 ?_
  refine j_iconst C (v := 0) d_Writer_writeHead_87 (by decide) ?_
  obtain ⟨b8, h⟩ := gd_ok h
  refine j_iald C (8) (t0 := 0) rfl rfl b8 d_Writer_writeHead_88 ?_
  obtain ⟨r9, hr9, h⟩ := bd_ok h
  obtain ⟨zr9, h, ezr9, fzr9, gzr9⟩ := ad_ok h
  refine j_VV C [.int (L.2 5 ((0 : Int32).toNatClampNeg))] hA 10 rfl rfl (c_ByteRow_append l D cI cR cZ b qr7 r7.1 (L.2 5 ((0 : Int32).toNatClampNeg)) hr9) (cw_Writer_41 C ⟨Nat.le_of_ble_eq_true rfl, Nat.le_of_ble_eq_true rfl⟩) [10, 11] [0, 1, 2, 3, 4, 5, 6, 7, 8, 9] rfl rfl (by decide) (by decide) (by decide) rfl rfl (Nat.le_of_ble_eq_true rfl) d_Writer_writeHead_89 ⟨by show _ ≤ res.2.1; omega, by show _ ≤ res.2.2; omega⟩ (fun qr9 => ?_)
  refine j_ws (ws' := wWr cI cR o0 a n b qr9 L r9.1) rfl ?_
  obtain rfl := Option.some.inj h
  rw [ezr1, ezr2, ezr3, ezr4, ezr5, ezr7, ezr9]
  refine j_widen (c2 := res.2.1) (s2 := res.2.2) (by omega) (by omega) ?_
  exact j_vret C hr d_Writer_writeHead_92 qr9 rfl
def Writer_writeLayer_b86 (fu : Nat) (n : Nat) (L : LyS) (B : ByS) (v2 : Int32) (v3 : Int32) (v4 : Int32) (v5 : Int32) (v6 : Int32) (s0 : Int32) : Option ((ByS) × Nat × Nat) :=
  (ByteRow_append B s0).bind fun r7 =>
  ad r7.2.1 r7.2.2 ((ByteRow_append r7.1 ((mn v6 v5) &&& 255)).bind fun r8 =>
  ad r8.2.1 r8.2.2 ((ByteRow_append r8.1 ((mn v6 v5) >>> ((8 : Int32) &&& 31))).bind fun r9 =>
  ad r9.2.1 r9.2.2 ((if v5 ≤ v6 then (if v2 = 1 then (Writer_writeBits fu n L r9.1 v3 v4).bind fun r11 =>
  ad r11.2.1 r11.2.2 (some ((r11.1), 0, 0))
  else (Writer_writeValues fu n L r9.1 v2 v3 v4).bind fun r10 =>
  ad r10.2.1 r10.2.2 (some ((r10.1), 0, 0)))
  else (Writer_writeRuns fu n L r9.1 v2 v3 v4).bind fun r13 =>
  ad r13.2.1 r13.2.2 (some ((r13.1), 0, 0))))))
def Writer_writeLayer_b55 (fu : Nat) (n : Nat) (L : LyS) (B : ByS) (v2 : Int32) (v3 : Int32) (v4 : Int32) (v5 : Int32) (s0 : Int32) (s1 : Int32) : Option ((ByS) × Nat × Nat) :=
  (ByteRow_append B (160 + v2)).bind fun r6 =>
  ad r6.2.1 r6.2.2 ((if v5 ≤ (s1 * s0) then Writer_writeLayer_b86 fu n L r6.1 v2 v3 v4 v5 (s1 * s0) 0
  else Writer_writeLayer_b86 fu n L r6.1 v2 v3 v4 v5 (s1 * s0) 1))
def Writer_writeLayer (fu : Nat) (n : Nat) (L : LyS) (B : ByS) (p1 : Int32) (p2 : Int32) : Option ((ByS) × Nat × Nat) :=
  (Layers_startOf n L p1).bind fun r1 =>
  (Layers_endOf n L p1 p2).bind fun r2 =>
  (ML_plainBytes p2 (r2 - r1)).bind fun r3 =>
  gd p2 4 ((Writer_countRuns fu n (L.2 p2.toNatClampNeg) r1 r2).bind fun r5 =>
  (if p2 = 1 then Writer_writeLayer_b55 fu n L B p2 r1 r2 r3 2 r5
  else Writer_writeLayer_b55 fu n L B p2 r1 r2 r3 4 r5))
set_option maxRecDepth 100000 in
set_option maxHeartbeats 4000000 in
theorem t_Writer_writeLayer_b86 {p : Program} {l : Launch} {e : Env} {s : State} {m : MethodId} {args : Array Value} {below : List Frame} {meth : Method} {c : Code} {D : va_G} {cI cR cZ : ClassId} {A : Nat → Prop} {cT sT cs ss : Nat} (C : Cx p s m args meth c D (tyG cI cR cZ) b_Writer_writeLayer 7 "MaskLayers$Writer") (hr : meth.sig.returnType = none) (hA : ∀ q : Nat, s.heap.size ≤ q → A q) {o0 : Nat} {a : (Nat → Nat)} {n : Nat} {b : Nat} {q : Nat} {L : LyS} {B : ByS} {fu : Nat} {v2 : Int32} {v3 : Int32} {v4 : Int32} {v5 : Int32} {v6 : Int32} {s0 : Int32} {res : ((ByS) × Nat × Nat)} (hcs : cs + res.2.1 ≤ cT) (hss : ss + res.2.2 ≤ sT) (h : Writer_writeLayer_b86 fu n L B v2 v3 v4 v5 v6 s0 = some res) : J p l e (rm_Writer_writeLayer cT sT) s m args below meth c D A (va_D A) 7 (MQ below (QcV D (fun q9 : Nat => wWr cI cR o0 a n b q9 L res.1) A) args s cT sT A) cs ss (wWr cI cR o0 a n b q L B) [(0, .ref o0), (2, .int v2), (3, .int v3), (4, .int v4), (5, .int v5), (6, .int v6)] [.int s0, .ref b] 86 := by
  unfold Writer_writeLayer_b86 at h
  obtain ⟨r7, hr7, h⟩ := bd_ok h
  obtain ⟨zr7, h, ezr7, fzr7, gzr7⟩ := ad_ok h
  refine j_VV C [.int s0] hA 10 rfl rfl (c_ByteRow_append l D cI cR cZ b q B s0 hr7) (cw_Writer_41 C ⟨Nat.le_of_ble_eq_true rfl, Nat.le_of_ble_eq_true rfl⟩) [10, 11] [0, 1, 2, 3, 4, 5, 6, 7, 8, 9] rfl rfl (by decide) (by decide) (by decide) rfl rfl (Nat.le_of_ble_eq_true rfl) d_Writer_writeLayer_86 ⟨by show _ ≤ cT; omega, by show _ ≤ sT; omega⟩ (fun qr7 => ?_)
  refine j_ws (ws' := wWr cI cR o0 a n b qr7 L r7.1) rfl ?_
  refine j_aload_n C 0 d_Writer_writeLayer_89 rfl ?_
  refine gf_Writer_15 C 0 (v := .ref b) rfl rfl d_Writer_writeLayer_90 ?_
  refine j_iload C 5 d_Writer_writeLayer_93 rfl ?_
  refine j_iload C 4 d_Writer_writeLayer_95 rfl ?_
  refine j_mmin C mw_Writer_81 (Nat.le_of_ble_eq_true rfl) (Nat.le_of_ble_eq_true rfl) ⟨by show _ ≤ cT; omega, by show _ ≤ sT; omega⟩ d_Writer_writeLayer_97 ?_
  refine j_sipush C (v := 255) d_Writer_writeLayer_100 (by decide) ?_
  refine j_iand C d_Writer_writeLayer_103 ?_
  obtain ⟨r8, hr8, h⟩ := bd_ok h
  obtain ⟨zr8, h, ezr8, fzr8, gzr8⟩ := ad_ok h
  refine j_VV C [.int ((mn v6 v5) &&& 255)] hA 10 rfl rfl (c_ByteRow_append l D cI cR cZ b qr7 r7.1 ((mn v6 v5) &&& 255) hr8) (cw_Writer_41 C ⟨Nat.le_of_ble_eq_true rfl, Nat.le_of_ble_eq_true rfl⟩) [10, 11] [0, 1, 2, 3, 4, 5, 6, 7, 8, 9] rfl rfl (by decide) (by decide) (by decide) rfl rfl (Nat.le_of_ble_eq_true rfl) d_Writer_writeLayer_104 ⟨by show _ ≤ cT; omega, by show _ ≤ sT; omega⟩ (fun qr8 => ?_)
  refine j_ws (ws' := wWr cI cR o0 a n b qr8 L r8.1) rfl ?_
  refine j_aload_n C 0 d_Writer_writeLayer_107 rfl ?_
  refine gf_Writer_15 C 0 (v := .ref b) rfl rfl d_Writer_writeLayer_108 ?_
  refine j_iload C 5 d_Writer_writeLayer_111 rfl ?_
  refine j_iload C 4 d_Writer_writeLayer_113 rfl ?_
  refine j_mmin C mw_Writer_81 (Nat.le_of_ble_eq_true rfl) (Nat.le_of_ble_eq_true rfl) ⟨by show _ ≤ cT; omega, by show _ ≤ sT; omega⟩ d_Writer_writeLayer_115 ?_
  refine j_bipush C (v := 8) d_Writer_writeLayer_118 (by decide) ?_
  refine j_ishr C d_Writer_writeLayer_120 ?_
  obtain ⟨r9, hr9, h⟩ := bd_ok h
  obtain ⟨zr9, h, ezr9, fzr9, gzr9⟩ := ad_ok h
  refine j_VV C [.int ((mn v6 v5) >>> ((8 : Int32) &&& 31))] hA 10 rfl rfl (c_ByteRow_append l D cI cR cZ b qr8 r8.1 ((mn v6 v5) >>> ((8 : Int32) &&& 31)) hr9) (cw_Writer_41 C ⟨Nat.le_of_ble_eq_true rfl, Nat.le_of_ble_eq_true rfl⟩) [10, 11] [0, 1, 2, 3, 4, 5, 6, 7, 8, 9] rfl rfl (by decide) (by decide) (by decide) rfl rfl (Nat.le_of_ble_eq_true rfl) d_Writer_writeLayer_121 ⟨by show _ ≤ cT; omega, by show _ ≤ sT; omega⟩ (fun qr9 => ?_)
  refine j_ws (ws' := wWr cI cR o0 a n b qr9 L r9.1) rfl ?_
  refine j_iload C 5 d_Writer_writeLayer_124 rfl ?_
  refine j_iload C 4 d_Writer_writeLayer_126 rfl ?_
  refine j_icmp_ge C 142 d_Writer_writeLayer_128 (by decide) (fun c14 => ?_) (fun c14 => ?_)
  · replace h := (if_pos c14).symm.trans h
    refine j_iload_n C 1 d_Writer_writeLayer_142 rfl ?_
    refine j_iconst C (v := 1) d_Writer_writeLayer_143 (by decide) ?_
    refine j_icmp_ne C 157 d_Writer_writeLayer_144 (by decide) (fun c12 => ?_) (fun c12 => ?_)
    · replace h := (if_neg c12).symm.trans h
      refine j_aload_n C 0 d_Writer_writeLayer_157 rfl ?_
      refine j_iload_n C 1 d_Writer_writeLayer_158 rfl ?_
      refine j_iload_n C 2 d_Writer_writeLayer_159 rfl ?_
      refine j_iload C 3 d_Writer_writeLayer_160 rfl ?_
      obtain ⟨r10, hr10, h⟩ := bd_ok h
      obtain ⟨zr10, h, ezr10, fzr10, gzr10⟩ := ad_ok h
      refine j_VV C [.int v2, .int v3, .int v4] hA 0 rfl rfl (c_Writer_writeValues l D cI cR cZ fu o0 a n b qr9 L r9.1 v2 v3 v4 hr10) (cw_Writer_93 C ⟨Nat.le_of_ble_eq_true rfl, Nat.le_of_ble_eq_true rfl⟩) [0, 1, 2, 3, 4, 5, 6, 7, 8, 9, 10, 11] [] rfl rfl (by decide) (by decide) (by decide) rfl rfl (Nat.le_of_ble_eq_true rfl) d_Writer_writeLayer_162 ⟨by show _ ≤ cT; omega, by show _ ≤ sT; omega⟩ (fun qr10 => ?_)
      refine j_ws (ws' := wWr cI cR o0 a n b qr10 L r10.1) rfl ?_
      obtain rfl := Option.some.inj h
      rw [ezr7, ezr8, ezr9, ezr10]
      refine j_widen (c2 := cT) (s2 := sT) (by omega) (by omega) ?_
      exact j_vret C hr d_Writer_writeLayer_165 qr10 rfl
    · replace h := (if_pos c12).symm.trans h
      refine j_aload_n C 0 d_Writer_writeLayer_147 rfl ?_
      refine j_iload_n C 2 d_Writer_writeLayer_148 rfl ?_
      refine j_iload C 3 d_Writer_writeLayer_149 rfl ?_
      obtain ⟨r11, hr11, h⟩ := bd_ok h
      obtain ⟨zr11, h, ezr11, fzr11, gzr11⟩ := ad_ok h
      refine j_VV C [.int v3, .int v4] hA 0 rfl rfl (c_Writer_writeBits l D cI cR cZ fu o0 a n b qr9 L r9.1 v3 v4 hr11) (cw_Writer_90 C ⟨Nat.le_of_ble_eq_true rfl, Nat.le_of_ble_eq_true rfl⟩) [0, 1, 2, 3, 4, 5, 6, 7, 8, 9, 10, 11] [] rfl rfl (by decide) (by decide) (by decide) rfl rfl (Nat.le_of_ble_eq_true rfl) d_Writer_writeLayer_151 ⟨by show _ ≤ cT; omega, by show _ ≤ sT; omega⟩ (fun qr11 => ?_)
      refine j_ws (ws' := wWr cI cR o0 a n b qr11 L r11.1) rfl ?_
      refine j_goto C 165 d_Writer_writeLayer_154 (by decide) ?_
      obtain rfl := Option.some.inj h
      rw [ezr7, ezr8, ezr9, ezr11]
      refine j_widen (c2 := cT) (s2 := sT) (by omega) (by omega) ?_
      exact j_vret C hr d_Writer_writeLayer_165 qr11 rfl
  · replace h := (if_neg c14).symm.trans h
    refine j_aload_n C 0 d_Writer_writeLayer_131 rfl ?_
    refine j_iload_n C 1 d_Writer_writeLayer_132 rfl ?_
    refine j_iload_n C 2 d_Writer_writeLayer_133 rfl ?_
    refine j_iload C 3 d_Writer_writeLayer_134 rfl ?_
    obtain ⟨r13, hr13, h⟩ := bd_ok h
    obtain ⟨zr13, h, ezr13, fzr13, gzr13⟩ := ad_ok h
    refine j_VV C [.int v2, .int v3, .int v4] hA 0 rfl rfl (c_Writer_writeRuns l D cI cR cZ fu o0 a n b qr9 L r9.1 v2 v3 v4 hr13) (cw_Writer_86 C ⟨Nat.le_of_ble_eq_true rfl, Nat.le_of_ble_eq_true rfl⟩) [0, 1, 2, 3, 4, 5, 6, 7, 8, 9, 10, 11] [] rfl rfl (by decide) (by decide) (by decide) rfl rfl (Nat.le_of_ble_eq_true rfl) d_Writer_writeLayer_136 ⟨by show _ ≤ cT; omega, by show _ ≤ sT; omega⟩ (fun qr13 => ?_)
    refine j_ws (ws' := wWr cI cR o0 a n b qr13 L r13.1) rfl ?_
    refine j_goto C 165 d_Writer_writeLayer_139 (by decide) ?_
    obtain rfl := Option.some.inj h
    rw [ezr7, ezr8, ezr9, ezr13]
    refine j_widen (c2 := cT) (s2 := sT) (by omega) (by omega) ?_
    exact j_vret C hr d_Writer_writeLayer_165 qr13 rfl
set_option maxRecDepth 100000 in
set_option maxHeartbeats 4000000 in
theorem t_Writer_writeLayer_b55 {p : Program} {l : Launch} {e : Env} {s : State} {m : MethodId} {args : Array Value} {below : List Frame} {meth : Method} {c : Code} {D : va_G} {cI cR cZ : ClassId} {A : Nat → Prop} {cT sT cs ss : Nat} (C : Cx p s m args meth c D (tyG cI cR cZ) b_Writer_writeLayer 7 "MaskLayers$Writer") (hr : meth.sig.returnType = none) (hA : ∀ q : Nat, s.heap.size ≤ q → A q) {o0 : Nat} {a : (Nat → Nat)} {n : Nat} {b : Nat} {q : Nat} {L : LyS} {B : ByS} {fu : Nat} {v2 : Int32} {v3 : Int32} {v4 : Int32} {v5 : Int32} {s0 : Int32} {s1 : Int32} {res : ((ByS) × Nat × Nat)} (hcs : cs + res.2.1 ≤ cT) (hss : ss + res.2.2 ≤ sT) (h : Writer_writeLayer_b55 fu n L B v2 v3 v4 v5 s0 s1 = some res) : J p l e (rm_Writer_writeLayer cT sT) s m args below meth c D A (va_D A) 7 (MQ below (QcV D (fun q9 : Nat => wWr cI cR o0 a n b q9 L res.1) A) args s cT sT A) cs ss (wWr cI cR o0 a n b q L B) [(0, .ref o0), (2, .int v2), (3, .int v3), (4, .int v4), (5, .int v5)] [.int s0, .int s1] 55 := by
  unfold Writer_writeLayer_b55 at h
  refine j_imul C d_Writer_writeLayer_55 ?_
  refine j_istore C [(6, .int (s1 * s0)), (0, .ref o0), (2, .int v2), (3, .int v3), (4, .int v4), (5, .int v5)] d_Writer_writeLayer_56 (by decide) rfl ?_
  refine j_aload_n C 1 d_Writer_writeLayer_58 rfl ?_
  refine gf_Writer_15 C 0 (v := .ref b) rfl rfl d_Writer_writeLayer_59 ?_
  refine j_sipush C (v := 160) d_Writer_writeLayer_62 (by decide) ?_
  refine j_iload_n C 2 d_Writer_writeLayer_65 rfl ?_
  refine j_iadd C d_Writer_writeLayer_66 ?_
  obtain ⟨r6, hr6, h⟩ := bd_ok h
  obtain ⟨zr6, h, ezr6, fzr6, gzr6⟩ := ad_ok h
  refine j_VV C [.int (160 + v2)] hA 10 rfl rfl (c_ByteRow_append l D cI cR cZ b q B (160 + v2) hr6) (cw_Writer_41 C ⟨Nat.le_of_ble_eq_true rfl, Nat.le_of_ble_eq_true rfl⟩) [10, 11] [0, 1, 2, 3, 4, 5, 6, 7, 8, 9] rfl rfl (by decide) (by decide) (by decide) rfl rfl (Nat.le_of_ble_eq_true rfl) d_Writer_writeLayer_67 ⟨by show _ ≤ cT; omega, by show _ ≤ sT; omega⟩ (fun qr6 => ?_)
  refine j_ws (ws' := wWr cI cR o0 a n b qr6 L r6.1) rfl ?_
  refine j_aload_n C 1 d_Writer_writeLayer_70 rfl ?_
  refine gf_Writer_15 C 0 (v := .ref b) rfl rfl d_Writer_writeLayer_71 ?_
  refine j_iload C 0 d_Writer_writeLayer_74 rfl ?_
  refine j_iload C 5 d_Writer_writeLayer_76 rfl ?_
  refine j_icmp_ge C 85 d_Writer_writeLayer_78 (by decide) (fun c15 => ?_) (fun c15 => ?_)
  · replace h := (if_pos c15).symm.trans h
    refine j_iconst C (v := 0) d_Writer_writeLayer_85 (by decide) ?_
    refine j_sub [1, 2, 3, 4, 5, 0] rfl ?_
    rw [ezr6]
    exact t_Writer_writeLayer_b86 C hr hA (by omega) (by omega) h
  · replace h := (if_neg c15).symm.trans h
    refine j_iconst C (v := 1) d_Writer_writeLayer_81 (by decide) ?_
    refine j_goto C 86 d_Writer_writeLayer_82 (by decide) ?_
    refine j_sub [1, 2, 3, 4, 5, 0] rfl ?_
    rw [ezr6]
    exact t_Writer_writeLayer_b86 C hr hA (by omega) (by omega) h
set_option maxRecDepth 100000 in
set_option maxHeartbeats 4000000 in
theorem c_Writer_writeLayer (l : Launch) (D : va_G) (cI cR cZ : ClassId) (fu : Nat) (o0 : Nat) (a : (Nat → Nat)) (n : Nat) (b : Nat) (q : Nat) (L : LyS) (B : ByS) (p1 : Int32) (p2 : Int32) {res : ((ByS) × Nat × Nat)} (h : Writer_writeLayer fu n L B p1 p2 = some res) (sz : Nat) : Met l y_Writer_writeLayer (Cond.code y_Writer_writeLayer b_Writer_writeLayer 7 none :: BIG) (rm_Writer_writeLayer res.2.1 res.2.2) (PcI [.ref o0, .int p1, .int p2] D (tyG cI cR cZ) (wWr cI cR o0 a n b q L B) sz) (QcV D (fun q9 : Nat => wWr cI cR o0 a n b q9 L res.1) (va_A (wWr cI cR o0 a n b q L B) sz)) res.2.1 res.2.2 (va_A (wWr cI cR o0 a n b q L B) sz) := by
  refine met_V (by decide) (Nat.le_of_ble_eq_true rfl) (fun p e s m args below meth c A hA C hr => ?_)
  have C : Cx p s m args meth c D (tyG cI cR cZ) b_Writer_writeLayer 7 "MaskLayers$Writer" := C
  have hr : meth.sig.returnType = none := hr
  show J p l e (rm_Writer_writeLayer res.2.1 res.2.2) s m args below meth c D A (va_D A) 7 (MQ below (QcV D (fun q9 : Nat => wWr cI cR o0 a n b q9 L res.1) A) args s res.2.1 res.2.2 A) 0 0 (wWr cI cR o0 a n b q L B) [(0, .ref o0), (1, .int p1), (2, .int p2)] [] 0
  unfold Writer_writeLayer at h
  refine j_aload_n C 0 d_Writer_writeLayer_0 rfl ?_
  refine gf_Writer_9 C 0 (v := .ref (a 0)) rfl rfl d_Writer_writeLayer_1 ?_
  refine j_iload_n C 1 d_Writer_writeLayer_4 rfl ?_
  obtain ⟨r1, hr1, h⟩ := bd_ok h
  refine j_PV C [.int p1] 1 rfl rfl (c_Layers_startOf l D cI cR cZ a n L p1 hr1) (cw_Writer_62 C ⟨Nat.le_of_ble_eq_true rfl, Nat.le_of_ble_eq_true rfl⟩) [1, 2, 3, 4, 5, 6, 7, 8, 9] rfl rfl rfl (Nat.le_of_ble_eq_true rfl) d_Writer_writeLayer_5 ⟨by show _ ≤ res.2.1; omega, by show _ ≤ res.2.2; omega⟩ ?_
  refine j_istore_n C [(3, .int r1), (0, .ref o0), (1, .int p1), (2, .int p2)] d_Writer_writeLayer_8 (by decide) rfl ?_
  refine j_aload_n C 1 d_Writer_writeLayer_9 rfl ?_
  refine gf_Writer_9 C 0 (v := .ref (a 0)) rfl rfl d_Writer_writeLayer_10 ?_
  refine j_iload_n C 2 d_Writer_writeLayer_13 rfl ?_
  refine j_iload_n C 3 d_Writer_writeLayer_14 rfl ?_
  obtain ⟨r2, hr2, h⟩ := bd_ok h
  refine j_PV C [.int p1, .int p2] 1 rfl rfl (c_Layers_endOf l D cI cR cZ a n L p1 p2 hr2) (cw_Writer_66 C ⟨Nat.le_of_ble_eq_true rfl, Nat.le_of_ble_eq_true rfl⟩) [1, 2, 3, 4, 5, 6, 7, 8, 9] rfl rfl rfl (Nat.le_of_ble_eq_true rfl) d_Writer_writeLayer_15 ⟨by show _ ≤ res.2.1; omega, by show _ ≤ res.2.2; omega⟩ ?_
  refine j_istore C [(4, .int r2), (3, .int r1), (0, .ref o0), (1, .int p1), (2, .int p2)] d_Writer_writeLayer_18 (by decide) rfl ?_
  refine j_iload_n C 4 d_Writer_writeLayer_20 rfl ?_
  refine j_iload C 0 d_Writer_writeLayer_21 rfl ?_
  refine j_iload_n C 1 d_Writer_writeLayer_23 rfl ?_
  refine j_isub C d_Writer_writeLayer_24 ?_
  obtain ⟨r3, hr3, h⟩ := bd_ok h
  refine j_PSN C [.int p2, .int (r2 - r1)] (c_ML_plainBytes l D cI cR cZ p2 (r2 - r1) hr3) (cw_Writer_70 C ⟨Nat.le_of_ble_eq_true rfl, Nat.le_of_ble_eq_true rfl⟩) [] rfl rfl rfl (Nat.le_of_ble_eq_true rfl) d_Writer_writeLayer_25 ⟨by show _ ≤ res.2.1; omega, by show _ ≤ res.2.2; omega⟩ ?_
  refine j_istore C [(5, .int r3), (4, .int r2), (3, .int r1), (0, .ref o0), (1, .int p1), (2, .int p2)] d_Writer_writeLayer_28 (by decide) rfl ?_
  refine j_aload_n C 3 d_Writer_writeLayer_30 rfl ?_
  refine gf_Writer_9 C 0 (v := .ref (a 0)) rfl rfl d_Writer_writeLayer_31 ?_
  refine gf_Writer_73 C 1 (v := .ref (a 1)) rfl rfl d_Writer_writeLayer_34 ?_
  refine j_iload_n C 5 d_Writer_writeLayer_37 rfl ?_
  obtain ⟨b4, h⟩ := gd_ok h
  refine j_aald C 2 (t0 := 2) rfl rfl b4 d_Writer_writeLayer_38 ?_
  refine j_iload_n C 2 d_Writer_writeLayer_39 rfl ?_
  refine j_iload C 1 d_Writer_writeLayer_40 rfl ?_
  obtain ⟨r5, hr5, h⟩ := bd_ok h
  refine j_PS C [.ref (a (2 + p2.toNatClampNeg)), .int r1, .int r2] (c_Writer_countRuns l D cI cR cZ fu (a (2 + p2.toNatClampNeg)) n (L.2 p2.toNatClampNeg) r1 r2 hr5) (cw_Writer_77 C ⟨Nat.le_of_ble_eq_true rfl, Nat.le_of_ble_eq_true rfl⟩) [3 + p2.toNatClampNeg] (by rw [List.map_cons, List.map_nil, (co_4 (P := fun k => (wWr cI cR o0 a n b q L B)[3 + k]? = some (a (2 + k), .inl (cI, n, .inl (L.2 k)))) rfl rfl rfl rfl (in_lt b4))]; rfl) rfl rfl (Nat.le_of_ble_eq_true rfl) d_Writer_writeLayer_42 ⟨by show _ ≤ res.2.1; omega, by show _ ≤ res.2.2; omega⟩ ?_
  refine j_iload_n C 5 d_Writer_writeLayer_45 rfl ?_
  refine j_iconst C (v := 1) d_Writer_writeLayer_46 (by decide) ?_
  refine j_icmp_ne C 54 d_Writer_writeLayer_47 (by decide) (fun c16 => ?_) (fun c16 => ?_)
  · replace h := (if_neg c16).symm.trans h
    refine j_iconst C (v := 4) d_Writer_writeLayer_54 (by decide) ?_
    refine j_sub [3, 5, 2, 1, 0] rfl ?_
    exact t_Writer_writeLayer_b55 C hr hA (by omega) (by omega) h
  · replace h := (if_pos c16).symm.trans h
    refine j_iconst C (v := 2) d_Writer_writeLayer_50 (by decide) ?_
    refine j_goto C 55 d_Writer_writeLayer_51 (by decide) ?_
    refine j_sub [3, 5, 2, 1, 0] rfl ?_
    exact t_Writer_writeLayer_b55 C hr hA (by omega) (by omega) h
def Writer_writeAll_l26 (fu : Nat) (n : Nat) (L : LyS) (v1 : Int32) : Nat → Int32 → ByS → Option ((Nat × ByS) × Nat × Nat)
  | 0, _, _ => none
  | k + 1, v2, B =>
  (if 3 < v2 then some ((0, B), 0, 0)
  else (Layers_has n L v1 v2).bind fun r4 =>
  (if r4 = 0 then Writer_writeAll_l26 fu n L v1 k (v2 + 1) B
  else (Writer_writeLayer fu n L B v1 v2).bind fun r5 =>
  ad r5.2.1 r5.2.2 (Writer_writeAll_l26 fu n L v1 k (v2 + 1) r5.1)))
def Writer_writeAll_l13 (fu : Nat) (n : Nat) (L : LyS) : Nat → Int32 → ByS → Option ((Nat × ByS) × Nat × Nat)
  | 0, _, _ => none
  | k + 1, v1, B =>
  (Layers_stripes n L).bind fun r3 =>
  (if r3 ≤ v1 then some ((0, B), 0, 0)
  else (Writer_writeAll_l26 fu n L v1 fu 0 B).bind fun r8 =>
  ad r8.2.1 r8.2.2 ((ByteRow_append r8.1.2 175).bind fun r9 =>
  ad r9.2.1 r9.2.2 (Writer_writeAll_l13 fu n L k (v1 + 1) r9.1)))
def Writer_writeAll (fu : Nat) (n : Nat) (L : LyS) (B : ByS) : Option ((Int32 × ByS) × Nat × Nat) :=
  (ByteRow_empty B).bind fun r1 =>
  (Writer_writeHead n L r1).bind fun r2 =>
  ad r2.2.1 r2.2.2 ((Writer_writeAll_l13 fu n L fu 0 r2.1).bind fun r12 =>
  ad r12.2.1 r12.2.2 (some ((r12.1.2.1, r12.1.2), 0, 0)))
set_option maxRecDepth 100000 in
set_option maxHeartbeats 4000000 in
theorem t_Writer_writeAll_l26 {p : Program} {l : Launch} {e : Env} {s : State} {m : MethodId} {args : Array Value} {below : List Frame} {meth : Method} {c : Code} {D : va_G} {cI cR cZ : ClassId} {A : Nat → Prop} {cT sT : Nat} {Q : State → Prop} (C : Cx p s m args meth c D (tyG cI cR cZ) b_Writer_writeAll 3 "MaskLayers$Writer") (hA : ∀ q : Nat, s.heap.size ≤ q → A q) {o0 : Nat} {a : (Nat → Nat)} {n : Nat} {b : Nat} {fu : Nat} {L : LyS} {v1 : Int32} : ∀ (k : Nat) (v2 : Int32) (B : ByS) (q cs ss : Nat) (out : (Nat × ByS) × Nat × Nat), Writer_writeAll_l26 fu n L v1 k v2 B = some out → cs + out.2.1 ≤ cT → ss + out.2.2 ≤ sT → (∀ q9 : Nat, out.1.1 = 0 → J p l e (rm_Writer_writeAll cT sT) s m args below meth c D A (va_D A) 3 Q (cs + out.2.1) (ss + out.2.2) (wWr cI cR o0 a n b q9 L out.1.2) [(0, .ref o0), (1, .int v1)] [] 55) → J p l e (rm_Writer_writeAll cT sT) s m args below meth c D A (va_D A) 3 Q cs ss (wWr cI cR o0 a n b q L B) [(0, .ref o0), (1, .int v1), (2, .int v2)] [] 26 := by
  intro k
  induction k with
  | zero => intro v2 B q cs ss out h; cases (show none = some out from h)
  | succ k ih =>
    intro v2 B q cs ss out h hcs hss x0
    rw [Writer_writeAll_l26] at h
    refine j_iload_n C 2 d_Writer_writeAll_26 rfl ?_
    refine j_iconst C (v := 3) d_Writer_writeAll_27 (by decide) ?_
    refine j_icmp_gt C 55 d_Writer_writeAll_28 (by decide) (fun c7 => ?_) (fun c7 => ?_)
    · replace h := (if_pos c7).symm.trans h
      obtain rfl := Option.some.inj h
      refine j_sub [0, 1] rfl ?_
      have X := x0 q (by rfl)
      exact j_widen (by omega) (by omega) X
    · replace h := (if_neg c7).symm.trans h
      refine j_aload_n C 0 d_Writer_writeAll_31 rfl ?_
      refine gf_Writer_9 C 0 (v := .ref (a 0)) rfl rfl d_Writer_writeAll_32 ?_
      refine j_iload_n C 1 d_Writer_writeAll_35 rfl ?_
      refine j_iload_n C 2 d_Writer_writeAll_36 rfl ?_
      obtain ⟨r4, hr4, h⟩ := bd_ok h
      refine j_PV C [.int v1, .int v2] 1 rfl rfl (c_Layers_has l D cI cR cZ a n L v1 v2 hr4) (cw_Writer_33 C ⟨Nat.le_of_ble_eq_true rfl, Nat.le_of_ble_eq_true rfl⟩) [1, 2, 3, 4, 5, 6, 7, 8, 9] rfl rfl rfl (Nat.le_of_ble_eq_true rfl) d_Writer_writeAll_37 ⟨by show _ ≤ cT; omega, by show _ ≤ sT; omega⟩ ?_
      refine j_if_eq C 49 d_Writer_writeAll_40 (by decide) (fun c6 => ?_) (fun c6 => ?_)
      · replace h := (if_pos c6).symm.trans h
        refine j_iinc C [(2, .int (v2 + 1)), (0, .ref o0), (1, .int v1)] 2 (v2 + 1) d_Writer_writeAll_49 rfl rfl (by decide) rfl ?_
        refine j_goto C 26 d_Writer_writeAll_52 (by decide) ?_
        refine j_sub [1, 2, 0] rfl ?_
        exact ih (v2 + 1) B q cs ss _ h (by omega) (by omega) (fun q9 e9 => by have X := x0 q9 (by exact e9); exact j_widen (by omega) (by omega) X)
      · replace h := (if_neg c6).symm.trans h
        refine j_aload_n C 0 d_Writer_writeAll_43 rfl ?_
        refine j_iload_n C 1 d_Writer_writeAll_44 rfl ?_
        refine j_iload_n C 2 d_Writer_writeAll_45 rfl ?_
        obtain ⟨r5, hr5, h⟩ := bd_ok h
        obtain ⟨zr5, h, ezr5, fzr5, gzr5⟩ := ad_ok h
        refine j_VV C [.int v1, .int v2] hA 0 rfl rfl (c_Writer_writeLayer l D cI cR cZ fu o0 a n b q L B v1 v2 hr5) (cw_Writer_37 C ⟨Nat.le_of_ble_eq_true rfl, Nat.le_of_ble_eq_true rfl⟩) [0, 1, 2, 3, 4, 5, 6, 7, 8, 9, 10, 11] [] rfl rfl (by decide) (by decide) (by decide) rfl rfl (Nat.le_of_ble_eq_true rfl) d_Writer_writeAll_46 ⟨by show _ ≤ cT; omega, by show _ ≤ sT; omega⟩ (fun qr5 => ?_)
        refine j_ws (ws' := wWr cI cR o0 a n b qr5 L r5.1) rfl ?_
        refine j_iinc C [(2, .int (v2 + 1)), (0, .ref o0), (1, .int v1)] 2 (v2 + 1) d_Writer_writeAll_49 rfl rfl (by decide) rfl ?_
        refine j_goto C 26 d_Writer_writeAll_52 (by decide) ?_
        refine j_sub [1, 2, 0] rfl ?_
        exact ih (v2 + 1) r5.1 qr5 (cs + r5.2.1) (ss + r5.2.2) _ h (by omega) (by omega) (fun q9 e9 => by have X := x0 q9 (by rw [ezr5]; exact e9); rw [ezr5] at X; exact j_widen (by omega) (by omega) X)
set_option maxRecDepth 100000 in
set_option maxHeartbeats 4000000 in
theorem t_Writer_writeAll_l13 {p : Program} {l : Launch} {e : Env} {s : State} {m : MethodId} {args : Array Value} {below : List Frame} {meth : Method} {c : Code} {D : va_G} {cI cR cZ : ClassId} {A : Nat → Prop} {cT sT : Nat} {Q : State → Prop} (C : Cx p s m args meth c D (tyG cI cR cZ) b_Writer_writeAll 3 "MaskLayers$Writer") (hA : ∀ q : Nat, s.heap.size ≤ q → A q) {o0 : Nat} {a : (Nat → Nat)} {n : Nat} {b : Nat} {fu : Nat} {L : LyS} : ∀ (k : Nat) (v1 : Int32) (B : ByS) (q cs ss : Nat) (out : (Nat × ByS) × Nat × Nat), Writer_writeAll_l13 fu n L k v1 B = some out → cs + out.2.1 ≤ cT → ss + out.2.2 ≤ sT → (∀ q9 : Nat, out.1.1 = 0 → J p l e (rm_Writer_writeAll cT sT) s m args below meth c D A (va_D A) 3 Q (cs + out.2.1) (ss + out.2.2) (wWr cI cR o0 a n b q9 L out.1.2) [(0, .ref o0)] [] 71) → J p l e (rm_Writer_writeAll cT sT) s m args below meth c D A (va_D A) 3 Q cs ss (wWr cI cR o0 a n b q L B) [(0, .ref o0), (1, .int v1)] [] 13 := by
  intro k
  induction k with
  | zero => intro v1 B q cs ss out h; cases (show none = some out from h)
  | succ k ih =>
    intro v1 B q cs ss out h hcs hss x0
    rw [Writer_writeAll_l13] at h
    refine j_iload_n C 1 d_Writer_writeAll_13 rfl ?_
    refine j_aload_n C 0 d_Writer_writeAll_14 rfl ?_
    refine gf_Writer_9 C 0 (v := .ref (a 0)) rfl rfl d_Writer_writeAll_15 ?_
    obtain ⟨r3, hr3, h⟩ := bd_ok h
    refine j_PV C [] 1 rfl rfl (c_Layers_stripes l D cI cR cZ a n L hr3) (cw_Writer_27 C ⟨Nat.le_of_ble_eq_true rfl, Nat.le_of_ble_eq_true rfl⟩) [1, 2, 3, 4, 5, 6, 7, 8, 9] rfl rfl rfl (Nat.le_of_ble_eq_true rfl) d_Writer_writeAll_18 ⟨by show _ ≤ cT; omega, by show _ ≤ sT; omega⟩ ?_
    refine j_icmp_ge C 71 d_Writer_writeAll_21 (by decide) (fun c11 => ?_) (fun c11 => ?_)
    · replace h := (if_pos c11).symm.trans h
      obtain rfl := Option.some.inj h
      refine j_sub [0] rfl ?_
      have X := x0 q (by rfl)
      exact j_widen (by omega) (by omega) X
    · replace h := (if_neg c11).symm.trans h
      refine j_iconst C (v := 0) d_Writer_writeAll_24 (by decide) ?_
      refine j_istore_n C [(2, .int 0), (0, .ref o0), (1, .int v1)] d_Writer_writeAll_25 (by decide) rfl ?_
      obtain ⟨r8, hr8, h⟩ := bd_ok h
      obtain ⟨zr8, h, ezr8, fzr8, gzr8⟩ := ad_ok h
      refine j_sub [1, 2, 0] rfl ?_
      refine t_Writer_writeAll_l26 C hA fu 0 B q cs ss _ hr8 (by omega) (by omega) (fun qr8 e10 => ?_)
      · refine j_aload_n C 0 d_Writer_writeAll_55 rfl ?_
        refine gf_Writer_15 C 0 (v := .ref b) rfl rfl d_Writer_writeAll_56 ?_
        refine j_sipush C (v := 175) d_Writer_writeAll_59 (by decide) ?_
        obtain ⟨r9, hr9, h⟩ := bd_ok h
        obtain ⟨zr9, h, ezr9, fzr9, gzr9⟩ := ad_ok h
        refine j_VV C [.int 175] hA 10 rfl rfl (c_ByteRow_append l D cI cR cZ b qr8 r8.1.2 175 hr9) (cw_Writer_41 C ⟨Nat.le_of_ble_eq_true rfl, Nat.le_of_ble_eq_true rfl⟩) [10, 11] [0, 1, 2, 3, 4, 5, 6, 7, 8, 9] rfl rfl (by decide) (by decide) (by decide) rfl rfl (Nat.le_of_ble_eq_true rfl) d_Writer_writeAll_62 ⟨by show _ ≤ cT; omega, by show _ ≤ sT; omega⟩ (fun qr9 => ?_)
        refine j_ws (ws' := wWr cI cR o0 a n b qr9 L r9.1) rfl ?_
        refine j_iinc C [(1, .int (v1 + 1)), (0, .ref o0)] 1 (v1 + 1) d_Writer_writeAll_65 rfl rfl (by decide) rfl ?_
        refine j_goto C 13 d_Writer_writeAll_68 (by decide) ?_
        refine j_sub [1, 0] rfl ?_
        exact ih (v1 + 1) r9.1 qr9 ((cs + r8.2.1) + r9.2.1) ((ss + r8.2.2) + r9.2.2) _ h (by omega) (by omega) (fun q9 e9 => by have X := x0 q9 (by rw [ezr8, ezr9]; exact e9); rw [ezr8, ezr9] at X; exact j_widen (by omega) (by omega) X)
set_option maxRecDepth 100000 in
set_option maxHeartbeats 4000000 in
theorem c_Writer_writeAll (l : Launch) (D : va_G) (cI cR cZ : ClassId) (fu : Nat) (o0 : Nat) (a : (Nat → Nat)) (n : Nat) (b : Nat) (q : Nat) (L : LyS) (B : ByS) {res : ((Int32 × ByS) × Nat × Nat)} (h : Writer_writeAll fu n L B = some res) (sz : Nat) : Met l y_Writer_writeAll (Cond.code y_Writer_writeAll b_Writer_writeAll 3 (some .int) :: BIG) (rm_Writer_writeAll res.2.1 res.2.2) (PcI [.ref o0] D (tyG cI cR cZ) (wWr cI cR o0 a n b q L B) sz) (QcI D res.1.1 (fun q9 : Nat => wWr cI cR o0 a n b q9 L res.1.2) (va_A (wWr cI cR o0 a n b q L B) sz)) res.2.1 res.2.2 (va_A (wWr cI cR o0 a n b q L B) sz) := by
  refine met_I (by decide) (Nat.le_of_ble_eq_true rfl) (fun p e s m args below meth c A hA C hr => ?_)
  have C : Cx p s m args meth c D (tyG cI cR cZ) b_Writer_writeAll 3 "MaskLayers$Writer" := C
  have hr : meth.sig.returnType = some .int := hr
  show J p l e (rm_Writer_writeAll res.2.1 res.2.2) s m args below meth c D A (va_D A) 3 (MQ below (QcI D res.1.1 (fun q9 : Nat => wWr cI cR o0 a n b q9 L res.1.2) A) args s res.2.1 res.2.2 A) 0 0 (wWr cI cR o0 a n b q L B) [(0, .ref o0)] [] 0
  unfold Writer_writeAll at h
  refine j_aload_n C 0 d_Writer_writeAll_0 rfl ?_
  refine gf_Writer_15 C 0 (v := .ref b) rfl rfl d_Writer_writeAll_1 ?_
  obtain ⟨r1, hr1, h⟩ := bd_ok h
  refine j_VV C [] hA 10 rfl rfl (c_ByteRow_empty l D cI cR cZ b q B hr1) (cw_Writer_19 C ⟨Nat.le_of_ble_eq_true rfl, Nat.le_of_ble_eq_true rfl⟩) [10, 11] [0, 1, 2, 3, 4, 5, 6, 7, 8, 9] rfl rfl (by decide) (by decide) (by decide) rfl rfl (Nat.le_of_ble_eq_true rfl) d_Writer_writeAll_4 ⟨by show _ ≤ res.2.1; omega, by show _ ≤ res.2.2; omega⟩ (fun _ => ?_)
  refine j_ws (ws' := wWr cI cR o0 a n b q L r1) rfl ?_
  refine j_aload_n C 0 d_Writer_writeAll_7 rfl ?_
  obtain ⟨r2, hr2, h⟩ := bd_ok h
  obtain ⟨zr2, h, ezr2, fzr2, gzr2⟩ := ad_ok h
  refine j_VV C [] hA 0 rfl rfl (c_Writer_writeHead l D cI cR cZ o0 a n b q L r1 hr2) (cw_Writer_24 C ⟨Nat.le_of_ble_eq_true rfl, Nat.le_of_ble_eq_true rfl⟩) [0, 1, 2, 3, 4, 5, 6, 7, 8, 9, 10, 11] [] rfl rfl (by decide) (by decide) (by decide) rfl rfl (Nat.le_of_ble_eq_true rfl) d_Writer_writeAll_8 ⟨by show _ ≤ res.2.1; omega, by show _ ≤ res.2.2; omega⟩ (fun qr2 => ?_)
  refine j_ws (ws' := wWr cI cR o0 a n b qr2 L r2.1) rfl ?_
  refine j_iconst C (v := 0) d_Writer_writeAll_11 (by decide) ?_
  refine j_istore_n C [(1, .int 0), (0, .ref o0)] d_Writer_writeAll_12 (by decide) rfl ?_
  obtain ⟨r12, hr12, h⟩ := bd_ok h
  obtain ⟨zr12, h, ezr12, fzr12, gzr12⟩ := ad_ok h
  refine j_sub [1, 0] rfl ?_
  refine t_Writer_writeAll_l13 C hA fu 0 r2.1 qr2 (0 + r2.2.1) (0 + r2.2.2) _ hr12 (by omega) (by omega) (fun qr12 e13 => ?_)
  · refine j_aload_n C 0 d_Writer_writeAll_71 rfl ?_
    refine gf_Writer_15 C 0 (v := .ref b) rfl rfl d_Writer_writeAll_72 ?_
    refine gf_Writer_45 C 10 (v := .int r12.1.2.1) rfl rfl d_Writer_writeAll_75 ?_
    obtain rfl := Option.some.inj h
    rw [ezr2, ezr12]
    refine j_widen (c2 := res.2.1) (s2 := res.2.2) (by omega) (by omega) ?_
    exact j_iret C hr d_Writer_writeAll_78 qr12 rfl
end
