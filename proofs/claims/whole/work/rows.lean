section
-- ===== PART A: goes FIRST, ahead of the names: the tables' words, and 'selects' of the private methods out of them =====
/-- a private method of a class that the tables say can be made, by its rows of tables_1 -/
def lw_okq (q : MethodName × Nat) : Prop := (q.1.cls ≠ "java/lang/invoke/MethodHandle" ∧ q.1.cls ≠ "java/lang/invoke/VarHandle") ∧ Cond.instantiable q.1.cls q.2 ∈ tables_1 ∧ Cond.privateMethod q.1 ∈ tables_1 ∧ Cond.instanceMethod q.1 ∈ tables_1
theorem lw_p0 : lw_okq (⟨"java/util/ArrayList", "add", "(Ljava/lang/Object;[Ljava/lang/Object;I)V"⟩, 3) := ⟨⟨by decide +kernel, by decide +kernel⟩, List.mem_of_getElem? (i := 26) (by decide +kernel), List.mem_of_getElem? (i := 109) (by decide +kernel), List.mem_of_getElem? (i := 110) (by decide +kernel)⟩
theorem lw_p1 : lw_okq (⟨"java/util/ArrayList", "grow", "()[Ljava/lang/Object;"⟩, 3) := ⟨⟨by decide +kernel, by decide +kernel⟩, List.mem_of_getElem? (i := 26) (by decide +kernel), List.mem_of_getElem? (i := 113) (by decide +kernel), List.mem_of_getElem? (i := 114) (by decide +kernel)⟩
theorem lw_p2 : lw_okq (⟨"java/util/ArrayList", "grow", "(I)[Ljava/lang/Object;"⟩, 3) := ⟨⟨by decide +kernel, by decide +kernel⟩, List.mem_of_getElem? (i := 26) (by decide +kernel), List.mem_of_getElem? (i := 117) (by decide +kernel), List.mem_of_getElem? (i := 118) (by decide +kernel)⟩
theorem lw_p3 : lw_okq (⟨"ImageStores", "isMade", "(I)Z"⟩, 7) := ⟨⟨by decide +kernel, by decide +kernel⟩, List.mem_of_getElem? (i := 18) (by decide +kernel), List.mem_of_getElem? (i := 185) (by decide +kernel), List.mem_of_getElem? (i := 186) (by decide +kernel)⟩
theorem lw_p4 : lw_okq (⟨"ImageStores$Tree", "writeFile", "(II)Z"⟩, 1) := ⟨⟨by decide +kernel, by decide +kernel⟩, List.mem_of_getElem? (i := 70) (by decide +kernel), List.mem_of_getElem? (i := 223) (by decide +kernel), List.mem_of_getElem? (i := 224) (by decide +kernel)⟩
theorem lw_p5 : lw_okq (⟨"ImageStores$Tree", "liesBelowFile", "(I)Z"⟩, 1) := ⟨⟨by decide +kernel, by decide +kernel⟩, List.mem_of_getElem? (i := 70) (by decide +kernel), List.mem_of_getElem? (i := 227) (by decide +kernel), List.mem_of_getElem? (i := 228) (by decide +kernel)⟩
theorem lw_p6 : lw_okq (⟨"ImageStores$Tree", "isFile", "(I)Z"⟩, 1) := ⟨⟨by decide +kernel, by decide +kernel⟩, List.mem_of_getElem? (i := 70) (by decide +kernel), List.mem_of_getElem? (i := 237) (by decide +kernel), List.mem_of_getElem? (i := 238) (by decide +kernel)⟩
theorem lw_p7 : lw_okq (⟨"ImageStores$Tree", "makeAllAbove", "(I)V"⟩, 1) := ⟨⟨by decide +kernel, by decide +kernel⟩, List.mem_of_getElem? (i := 70) (by decide +kernel), List.mem_of_getElem? (i := 241) (by decide +kernel), List.mem_of_getElem? (i := 242) (by decide +kernel)⟩
theorem lw_p8 : lw_okq (⟨"ImageStores$Tree", "makeDirectory", "(I)Z"⟩, 1) := ⟨⟨by decide +kernel, by decide +kernel⟩, List.mem_of_getElem? (i := 70) (by decide +kernel), List.mem_of_getElem? (i := 245) (by decide +kernel), List.mem_of_getElem? (i := 246) (by decide +kernel)⟩
theorem lw_p9 : lw_okq (⟨"ImageStores$Tree", "removeAll", "(I)Z"⟩, 1) := ⟨⟨by decide +kernel, by decide +kernel⟩, List.mem_of_getElem? (i := 70) (by decide +kernel), List.mem_of_getElem? (i := 249) (by decide +kernel), List.mem_of_getElem? (i := 250) (by decide +kernel)⟩
theorem lw_p10 : lw_okq (⟨"ImageStores$Tree", "copyAll", "(II)Z"⟩, 1) := ⟨⟨by decide +kernel, by decide +kernel⟩, List.mem_of_getElem? (i := 70) (by decide +kernel), List.mem_of_getElem? (i := 256) (by decide +kernel), List.mem_of_getElem? (i := 257) (by decide +kernel)⟩
theorem lw_p11 : lw_okq (⟨"ImageStores$Tree", "mayCopy", "(II)Z"⟩, 1) := ⟨⟨by decide +kernel, by decide +kernel⟩, List.mem_of_getElem? (i := 70) (by decide +kernel), List.mem_of_getElem? (i := 260) (by decide +kernel), List.mem_of_getElem? (i := 261) (by decide +kernel)⟩
theorem lw_p12 : lw_okq (⟨"ImageStores$Tree", "fitsAt", "(II)Z"⟩, 1) := ⟨⟨by decide +kernel, by decide +kernel⟩, List.mem_of_getElem? (i := 70) (by decide +kernel), List.mem_of_getElem? (i := 264) (by decide +kernel), List.mem_of_getElem? (i := 265) (by decide +kernel)⟩
theorem lw_p13 : lw_okq (⟨"ImageStores", "answerDraftOn", "(I)I"⟩, 7) := ⟨⟨by decide +kernel, by decide +kernel⟩, List.mem_of_getElem? (i := 18) (by decide +kernel), List.mem_of_getElem? (i := 274) (by decide +kernel), List.mem_of_getElem? (i := 275) (by decide +kernel)⟩
theorem lw_p14 : lw_okq (⟨"ImageStores", "answerHeld", "(I)I"⟩, 7) := ⟨⟨by decide +kernel, by decide +kernel⟩, List.mem_of_getElem? (i := 18) (by decide +kernel), List.mem_of_getElem? (i := 282) (by decide +kernel), List.mem_of_getElem? (i := 283) (by decide +kernel)⟩
theorem lw_p15 : lw_okq (⟨"ImageStores", "newImageOn", "(I)LImageStores$Image;"⟩, 7) := ⟨⟨by decide +kernel, by decide +kernel⟩, List.mem_of_getElem? (i := 18) (by decide +kernel), List.mem_of_getElem? (i := 290) (by decide +kernel), List.mem_of_getElem? (i := 291) (by decide +kernel)⟩
def lw_privs_1 : List (MethodName × Nat) := [(⟨"java/util/ArrayList", "add", "(Ljava/lang/Object;[Ljava/lang/Object;I)V"⟩, 3), (⟨"java/util/ArrayList", "grow", "()[Ljava/lang/Object;"⟩, 3), (⟨"java/util/ArrayList", "grow", "(I)[Ljava/lang/Object;"⟩, 3), (⟨"ImageStores", "isMade", "(I)Z"⟩, 7), (⟨"ImageStores$Tree", "writeFile", "(II)Z"⟩, 1), (⟨"ImageStores$Tree", "liesBelowFile", "(I)Z"⟩, 1), (⟨"ImageStores$Tree", "isFile", "(I)Z"⟩, 1), (⟨"ImageStores$Tree", "makeAllAbove", "(I)V"⟩, 1), (⟨"ImageStores$Tree", "makeDirectory", "(I)Z"⟩, 1), (⟨"ImageStores$Tree", "removeAll", "(I)Z"⟩, 1), (⟨"ImageStores$Tree", "copyAll", "(II)Z"⟩, 1), (⟨"ImageStores$Tree", "mayCopy", "(II)Z"⟩, 1), (⟨"ImageStores$Tree", "fitsAt", "(II)Z"⟩, 1), (⟨"ImageStores", "answerDraftOn", "(I)I"⟩, 7), (⟨"ImageStores", "answerHeld", "(I)I"⟩, 7), (⟨"ImageStores", "newImageOn", "(I)LImageStores$Image;"⟩, 7)]
theorem lw_r1 : ∀ q ∈ lw_privs_1, lw_okq q := List.forall_mem_cons.mpr ⟨lw_p0, List.forall_mem_cons.mpr ⟨lw_p1, List.forall_mem_cons.mpr ⟨lw_p2, List.forall_mem_cons.mpr ⟨lw_p3, List.forall_mem_cons.mpr ⟨lw_p4, List.forall_mem_cons.mpr ⟨lw_p5, List.forall_mem_cons.mpr ⟨lw_p6, List.forall_mem_cons.mpr ⟨lw_p7, List.forall_mem_cons.mpr ⟨lw_p8, List.forall_mem_cons.mpr ⟨lw_p9, List.forall_mem_cons.mpr ⟨lw_p10, List.forall_mem_cons.mpr ⟨lw_p11, List.forall_mem_cons.mpr ⟨lw_p12, List.forall_mem_cons.mpr ⟨lw_p13, List.forall_mem_cons.mpr ⟨lw_p14, List.forall_mem_cons.mpr ⟨lw_p15, fun _ h => absurd h List.not_mem_nil⟩⟩⟩⟩⟩⟩⟩⟩⟩⟩⟩⟩⟩⟩⟩⟩
theorem lw_p16 : lw_okq (⟨"ImageStores", "numberOfLayer", "(LImageStores$Layer;)I"⟩, 7) := ⟨⟨by decide +kernel, by decide +kernel⟩, List.mem_of_getElem? (i := 18) (by decide +kernel), List.mem_of_getElem? (i := 331) (by decide +kernel), List.mem_of_getElem? (i := 332) (by decide +kernel)⟩
theorem lw_p17 : lw_okq (⟨"ImageStores", "storeOf", "(I)LImageStores$Store;"⟩, 7) := ⟨⟨by decide +kernel, by decide +kernel⟩, List.mem_of_getElem? (i := 18) (by decide +kernel), List.mem_of_getElem? (i := 353) (by decide +kernel), List.mem_of_getElem? (i := 354) (by decide +kernel)⟩
theorem lw_p18 : lw_okq (⟨"ImageStores", "namesImage", "(II)Z"⟩, 7) := ⟨⟨by decide +kernel, by decide +kernel⟩, List.mem_of_getElem? (i := 18) (by decide +kernel), List.mem_of_getElem? (i := 369) (by decide +kernel), List.mem_of_getElem? (i := 370) (by decide +kernel)⟩
theorem lw_p19 : lw_okq (⟨"ImageStores", "layersIn", "(LImageStores$Store;)I"⟩, 7) := ⟨⟨by decide +kernel, by decide +kernel⟩, List.mem_of_getElem? (i := 18) (by decide +kernel), List.mem_of_getElem? (i := 377) (by decide +kernel), List.mem_of_getElem? (i := 378) (by decide +kernel)⟩
theorem lw_p20 : lw_okq (⟨"ImageStores", "seeLayersOf", "(LImageStores$Store;)V"⟩, 7) := ⟨⟨by decide +kernel, by decide +kernel⟩, List.mem_of_getElem? (i := 18) (by decide +kernel), List.mem_of_getElem? (i := 381) (by decide +kernel), List.mem_of_getElem? (i := 382) (by decide +kernel)⟩
theorem lw_p21 : lw_okq (⟨"ImageStores", "hasLayer", "(II)Z"⟩, 7) := ⟨⟨by decide +kernel, by decide +kernel⟩, List.mem_of_getElem? (i := 18) (by decide +kernel), List.mem_of_getElem? (i := 427) (by decide +kernel), List.mem_of_getElem? (i := 428) (by decide +kernel)⟩
theorem lw_p22 : lw_okq (⟨"ImageStores", "layerOf", "(II)LImageStores$Layer;"⟩, 7) := ⟨⟨by decide +kernel, by decide +kernel⟩, List.mem_of_getElem? (i := 18) (by decide +kernel), List.mem_of_getElem? (i := 431) (by decide +kernel), List.mem_of_getElem? (i := 432) (by decide +kernel)⟩
theorem lw_p23 : lw_okq (⟨"ImageStores", "hasEntry", "(III)Z"⟩, 7) := ⟨⟨by decide +kernel, by decide +kernel⟩, List.mem_of_getElem? (i := 18) (by decide +kernel), List.mem_of_getElem? (i := 443) (by decide +kernel), List.mem_of_getElem? (i := 444) (by decide +kernel)⟩
theorem lw_p24 : lw_okq (⟨"ImageStores", "entriesIn", "(LImageStores$Store;)I"⟩, 7) := ⟨⟨by decide +kernel, by decide +kernel⟩, List.mem_of_getElem? (i := 18) (by decide +kernel), List.mem_of_getElem? (i := 468) (by decide +kernel), List.mem_of_getElem? (i := 469) (by decide +kernel)⟩
theorem lw_p25 : lw_okq (⟨"ImageStoresModel", "holding", "(II)Z"⟩, 8) := ⟨⟨by decide +kernel, by decide +kernel⟩, List.mem_of_getElem? (i := 472) (by decide +kernel), List.mem_of_getElem? (i := 509) (by decide +kernel), List.mem_of_getElem? (i := 510) (by decide +kernel)⟩
theorem lw_p26 : lw_okq (⟨"ImageStoresModel", "is", "(I)Z"⟩, 8) := ⟨⟨by decide +kernel, by decide +kernel⟩, List.mem_of_getElem? (i := 472) (by decide +kernel), List.mem_of_getElem? (i := 513) (by decide +kernel), List.mem_of_getElem? (i := 514) (by decide +kernel)⟩
theorem lw_p27 : lw_okq (⟨"ImageStoresModel", "load", "(I)V"⟩, 8) := ⟨⟨by decide +kernel, by decide +kernel⟩, List.mem_of_getElem? (i := 472) (by decide +kernel), List.mem_of_getElem? (i := 520) (by decide +kernel), List.mem_of_getElem? (i := 521) (by decide +kernel)⟩
theorem lw_p28 : lw_okq (⟨"ImageStoresModel", "change", "(III)Z"⟩, 8) := ⟨⟨by decide +kernel, by decide +kernel⟩, List.mem_of_getElem? (i := 472) (by decide +kernel), List.mem_of_getElem? (i := 524) (by decide +kernel), List.mem_of_getElem? (i := 525) (by decide +kernel)⟩
theorem lw_p29 : lw_okq (⟨"ImageStoresModel", "underFile", "(I)Z"⟩, 8) := ⟨⟨by decide +kernel, by decide +kernel⟩, List.mem_of_getElem? (i := 472) (by decide +kernel), List.mem_of_getElem? (i := 528) (by decide +kernel), List.mem_of_getElem? (i := 529) (by decide +kernel)⟩
theorem lw_p30 : lw_okq (⟨"ImageStoresModel", "raise", "(IJ)Z"⟩, 8) := ⟨⟨by decide +kernel, by decide +kernel⟩, List.mem_of_getElem? (i := 472) (by decide +kernel), List.mem_of_getElem? (i := 541) (by decide +kernel), List.mem_of_getElem? (i := 542) (by decide +kernel)⟩
theorem lw_p31 : lw_okq (⟨"ImageStoresModel", "wipe", "(I)Z"⟩, 8) := ⟨⟨by decide +kernel, by decide +kernel⟩, List.mem_of_getElem? (i := 472) (by decide +kernel), List.mem_of_getElem? (i := 545) (by decide +kernel), List.mem_of_getElem? (i := 546) (by decide +kernel)⟩
def lw_privs_2 : List (MethodName × Nat) := [(⟨"ImageStores", "numberOfLayer", "(LImageStores$Layer;)I"⟩, 7), (⟨"ImageStores", "storeOf", "(I)LImageStores$Store;"⟩, 7), (⟨"ImageStores", "namesImage", "(II)Z"⟩, 7), (⟨"ImageStores", "layersIn", "(LImageStores$Store;)I"⟩, 7), (⟨"ImageStores", "seeLayersOf", "(LImageStores$Store;)V"⟩, 7), (⟨"ImageStores", "hasLayer", "(II)Z"⟩, 7), (⟨"ImageStores", "layerOf", "(II)LImageStores$Layer;"⟩, 7), (⟨"ImageStores", "hasEntry", "(III)Z"⟩, 7), (⟨"ImageStores", "entriesIn", "(LImageStores$Store;)I"⟩, 7), (⟨"ImageStoresModel", "holding", "(II)Z"⟩, 8), (⟨"ImageStoresModel", "is", "(I)Z"⟩, 8), (⟨"ImageStoresModel", "load", "(I)V"⟩, 8), (⟨"ImageStoresModel", "change", "(III)Z"⟩, 8), (⟨"ImageStoresModel", "underFile", "(I)Z"⟩, 8), (⟨"ImageStoresModel", "raise", "(IJ)Z"⟩, 8), (⟨"ImageStoresModel", "wipe", "(I)Z"⟩, 8)]
theorem lw_r2 : ∀ q ∈ lw_privs_2, lw_okq q := List.forall_mem_cons.mpr ⟨lw_p16, List.forall_mem_cons.mpr ⟨lw_p17, List.forall_mem_cons.mpr ⟨lw_p18, List.forall_mem_cons.mpr ⟨lw_p19, List.forall_mem_cons.mpr ⟨lw_p20, List.forall_mem_cons.mpr ⟨lw_p21, List.forall_mem_cons.mpr ⟨lw_p22, List.forall_mem_cons.mpr ⟨lw_p23, List.forall_mem_cons.mpr ⟨lw_p24, List.forall_mem_cons.mpr ⟨lw_p25, List.forall_mem_cons.mpr ⟨lw_p26, List.forall_mem_cons.mpr ⟨lw_p27, List.forall_mem_cons.mpr ⟨lw_p28, List.forall_mem_cons.mpr ⟨lw_p29, List.forall_mem_cons.mpr ⟨lw_p30, List.forall_mem_cons.mpr ⟨lw_p31, fun _ h => absurd h List.not_mem_nil⟩⟩⟩⟩⟩⟩⟩⟩⟩⟩⟩⟩⟩⟩⟩⟩
theorem lw_p32 : lw_okq (⟨"ImageStoresModel", "copy", "(II)Z"⟩, 8) := ⟨⟨by decide +kernel, by decide +kernel⟩, List.mem_of_getElem? (i := 472) (by decide +kernel), List.mem_of_getElem? (i := 552) (by decide +kernel), List.mem_of_getElem? (i := 553) (by decide +kernel)⟩
theorem lw_p33 : lw_okq (⟨"ImageStoresModel", "image", "(I)I"⟩, 8) := ⟨⟨by decide +kernel, by decide +kernel⟩, List.mem_of_getElem? (i := 472) (by decide +kernel), List.mem_of_getElem? (i := 565) (by decide +kernel), List.mem_of_getElem? (i := 566) (by decide +kernel)⟩
theorem lw_p34 : lw_okq (⟨"ImageStoresModel", "workIs", "(I)Z"⟩, 8) := ⟨⟨by decide +kernel, by decide +kernel⟩, List.mem_of_getElem? (i := 472) (by decide +kernel), List.mem_of_getElem? (i := 569) (by decide +kernel), List.mem_of_getElem? (i := 570) (by decide +kernel)⟩
theorem lw_p35 : lw_okq (⟨"ImageStoresModel", "answer", "(I)I"⟩, 8) := ⟨⟨by decide +kernel, by decide +kernel⟩, List.mem_of_getElem? (i := 472) (by decide +kernel), List.mem_of_getElem? (i := 573) (by decide +kernel), List.mem_of_getElem? (i := 574) (by decide +kernel)⟩
theorem lw_p36 : lw_okq (⟨"ImageStoresModel", "chooseHeld", "(I)V"⟩, 8) := ⟨⟨by decide +kernel, by decide +kernel⟩, List.mem_of_getElem? (i := 472) (by decide +kernel), List.mem_of_getElem? (i := 596) (by decide +kernel), List.mem_of_getElem? (i := 597) (by decide +kernel)⟩
theorem lw_p37 : lw_okq (⟨"ImageStoresModel", "chooseNone", "()V"⟩, 8) := ⟨⟨by decide +kernel, by decide +kernel⟩, List.mem_of_getElem? (i := 472) (by decide +kernel), List.mem_of_getElem? (i := 600) (by decide +kernel), List.mem_of_getElem? (i := 601) (by decide +kernel)⟩
theorem lw_p38 : lw_okq (⟨"ImageStoresModel", "choose", "(I)V"⟩, 8) := ⟨⟨by decide +kernel, by decide +kernel⟩, List.mem_of_getElem? (i := 472) (by decide +kernel), List.mem_of_getElem? (i := 604) (by decide +kernel), List.mem_of_getElem? (i := 605) (by decide +kernel)⟩
theorem lw_p39 : lw_okq (⟨"ImageStoresModel", "different", "(Z)I"⟩, 8) := ⟨⟨by decide +kernel, by decide +kernel⟩, List.mem_of_getElem? (i := 472) (by decide +kernel), List.mem_of_getElem? (i := 608) (by decide +kernel), List.mem_of_getElem? (i := 609) (by decide +kernel)⟩
theorem lw_p40 : lw_okq (⟨"ImageStoresModel", "there", "(II)Z"⟩, 8) := ⟨⟨by decide +kernel, by decide +kernel⟩, List.mem_of_getElem? (i := 472) (by decide +kernel), List.mem_of_getElem? (i := 612) (by decide +kernel), List.mem_of_getElem? (i := 613) (by decide +kernel)⟩
theorem lw_p41 : lw_okq (⟨"ImageStoresModel", "same", "(II)Z"⟩, 8) := ⟨⟨by decide +kernel, by decide +kernel⟩, List.mem_of_getElem? (i := 472) (by decide +kernel), List.mem_of_getElem? (i := 616) (by decide +kernel), List.mem_of_getElem? (i := 617) (by decide +kernel)⟩
theorem lw_p42 : lw_okq (⟨"ImageStoresModel", "mark", "(II)J"⟩, 8) := ⟨⟨by decide +kernel, by decide +kernel⟩, List.mem_of_getElem? (i := 472) (by decide +kernel), List.mem_of_getElem? (i := 620) (by decide +kernel), List.mem_of_getElem? (i := 621) (by decide +kernel)⟩
theorem lw_p43 : lw_okq (⟨"ImageStoresModel", "size", "(I)I"⟩, 8) := ⟨⟨by decide +kernel, by decide +kernel⟩, List.mem_of_getElem? (i := 472) (by decide +kernel), List.mem_of_getElem? (i := 626) (by decide +kernel), List.mem_of_getElem? (i := 627) (by decide +kernel)⟩
theorem lw_p44 : lw_okq (⟨"ImageStoresModel", "layerCount", "(I)I"⟩, 8) := ⟨⟨by decide +kernel, by decide +kernel⟩, List.mem_of_getElem? (i := 472) (by decide +kernel), List.mem_of_getElem? (i := 654) (by decide +kernel), List.mem_of_getElem? (i := 655) (by decide +kernel)⟩
theorem lw_p45 : lw_okq (⟨"ImageStoresModel", "owner", "(II)I"⟩, 8) := ⟨⟨by decide +kernel, by decide +kernel⟩, List.mem_of_getElem? (i := 472) (by decide +kernel), List.mem_of_getElem? (i := 662) (by decide +kernel), List.mem_of_getElem? (i := 663) (by decide +kernel)⟩
def lw_privs_3 : List (MethodName × Nat) := [(⟨"ImageStoresModel", "copy", "(II)Z"⟩, 8), (⟨"ImageStoresModel", "image", "(I)I"⟩, 8), (⟨"ImageStoresModel", "workIs", "(I)Z"⟩, 8), (⟨"ImageStoresModel", "answer", "(I)I"⟩, 8), (⟨"ImageStoresModel", "chooseHeld", "(I)V"⟩, 8), (⟨"ImageStoresModel", "chooseNone", "()V"⟩, 8), (⟨"ImageStoresModel", "choose", "(I)V"⟩, 8), (⟨"ImageStoresModel", "different", "(Z)I"⟩, 8), (⟨"ImageStoresModel", "there", "(II)Z"⟩, 8), (⟨"ImageStoresModel", "same", "(II)Z"⟩, 8), (⟨"ImageStoresModel", "mark", "(II)J"⟩, 8), (⟨"ImageStoresModel", "size", "(I)I"⟩, 8), (⟨"ImageStoresModel", "layerCount", "(I)I"⟩, 8), (⟨"ImageStoresModel", "owner", "(II)I"⟩, 8)]
theorem lw_r3 : ∀ q ∈ lw_privs_3, lw_okq q := List.forall_mem_cons.mpr ⟨lw_p32, List.forall_mem_cons.mpr ⟨lw_p33, List.forall_mem_cons.mpr ⟨lw_p34, List.forall_mem_cons.mpr ⟨lw_p35, List.forall_mem_cons.mpr ⟨lw_p36, List.forall_mem_cons.mpr ⟨lw_p37, List.forall_mem_cons.mpr ⟨lw_p38, List.forall_mem_cons.mpr ⟨lw_p39, List.forall_mem_cons.mpr ⟨lw_p40, List.forall_mem_cons.mpr ⟨lw_p41, List.forall_mem_cons.mpr ⟨lw_p42, List.forall_mem_cons.mpr ⟨lw_p43, List.forall_mem_cons.mpr ⟨lw_p44, List.forall_mem_cons.mpr ⟨lw_p45, fun _ h => absurd h List.not_mem_nil⟩⟩⟩⟩⟩⟩⟩⟩⟩⟩⟩⟩⟩⟩
def lw_privs : List (MethodName × Nat) := lw_privs_1 ++ (lw_privs_2 ++ (lw_privs_3))
def lw_tbl : List Cond := k2_sels lw_privs ++ tables_1
theorem lw_privs_ok : ∀ q ∈ lw_privs, lw_okq q := by
  show ∀ q ∈ lw_privs_1 ++ (lw_privs_2 ++ (lw_privs_3)), lw_okq q
  exact List.forall_mem_append.mpr ⟨lw_r1, List.forall_mem_append.mpr ⟨lw_r2, lw_r3⟩⟩
end
section
/-- the tables' words that go along with a call -/
def x_tb : List Cond := lw_tbl.filter goodWord
theorem x_in {w : Cond} (h : w ∈ lw_tbl) (g : goodWord w = true) : w ∈ x_tb := List.mem_filter.mpr ⟨h, g⟩
theorem x_i1 {w : Cond} {i : Nat} (h : tables_1_1[i]? = some w) (g : goodWord w = true) : w ∈ x_tb := x_in (List.mem_append_right _ (List.mem_append_left _ (List.mem_of_getElem? h))) g
theorem x_i2 {w : Cond} {i : Nat} (h : tables_1_2[i]? = some w) (g : goodWord w = true) : w ∈ x_tb := x_in (List.mem_append_right _ (List.mem_append_right _ (List.mem_append_left _ (List.mem_of_getElem? h)))) g
theorem x_i3 {w : Cond} {i : Nat} (h : tables_1_3[i]? = some w) (g : goodWord w = true) : w ∈ x_tb := x_in (List.mem_append_right _ (List.mem_append_right _ (List.mem_append_right _ (List.mem_of_getElem? h)))) g
theorem x_is {q : MethodName × Nat} (h : q ∈ lw_privs) : Cond.selects q.1.cls q.1 q.1 ∈ x_tb := x_in (List.mem_append_left _ (List.mem_map.mpr ⟨q, h, rfl⟩)) rfl
def F_AL : u_T := fun k => match k with
  | 0 => ("java/util/AbstractList", "modCount", "I", false)
  | 1 => ("java/util/ArrayList", "elementData", "[Ljava/lang/Object;", false)
  | _ => ("java/util/ArrayList", "size", "I", false)
def t_AL : Nat → FieldType := fun k => match k with
  | 0 => .int
  | 1 => .array (.object "java/lang/Object")
  | _ => .int
theorem n_AL : ∀ a, a < 3 → ∀ b, b < 3 → a ≠ b → (F_AL a).2.1 ≠ (F_AL b).2.1 := by decide +kernel
theorem p_AL : ∀ k, k < 3 → parseFieldDescriptor (F_AL k).2.2.1 = some (t_AL k) := by decide +kernel
def F_IM : u_T := fun k => match k with
  | 0 => ("ImageStores$Image", "parent", "I", true)
  | 1 => ("ImageStores$Image", "tree", "LImageStores$Tree;", true)
  | _ => ("ImageStores$Image", "layerNumbers", "[I", true)
def t_IM : Nat → FieldType := fun k => match k with
  | 0 => .int
  | 1 => .object "ImageStores$Tree"
  | _ => .array .int
theorem n_IM : ∀ a, a < 3 → ∀ b, b < 3 → a ≠ b → (F_IM a).2.1 ≠ (F_IM b).2.1 := by decide +kernel
theorem p_IM : ∀ k, k < 3 → parseFieldDescriptor (F_IM k).2.2.1 = some (t_IM k) := by decide +kernel
def F_LY : u_T := fun k => match k with
  | 0 => ("ImageStores$Layer", "paths", "[I", true)
  | _ => ("ImageStores$Layer", "marks", "[J", true)
def t_LY : Nat → FieldType := fun k => match k with
  | 0 => .array .int
  | _ => .array .long
theorem n_LY : ∀ a, a < 2 → ∀ b, b < 2 → a ≠ b → (F_LY a).2.1 ≠ (F_LY b).2.1 := by decide +kernel
theorem p_LY : ∀ k, k < 2 → parseFieldDescriptor (F_LY k).2.2.1 = some (t_LY k) := by decide +kernel
def F_ST : u_T := fun k => match k with
  | 0 => ("ImageStores$Store", "holding", "[Z", true)
  | _ => ("ImageStores$Store", "names", "[I", true)
def t_ST : Nat → FieldType := fun k => match k with
  | 0 => .array .boolean
  | _ => .array .int
theorem n_ST : ∀ a, a < 2 → ∀ b, b < 2 → a ≠ b → (F_ST a).2.1 ≠ (F_ST b).2.1 := by decide +kernel
theorem p_ST : ∀ k, k < 2 → parseFieldDescriptor (F_ST k).2.2.1 = some (t_ST k) := by decide +kernel
def F_TR : u_T := fun k => match k with
  | _ => ("ImageStores$Tree", "marks", "[J", true)
def t_TR : Nat → FieldType := fun k => match k with
  | _ => .array .long
theorem n_TR : ∀ a, a < 1 → ∀ b, b < 1 → a ≠ b → (F_TR a).2.1 ≠ (F_TR b).2.1 := by decide +kernel
theorem p_TR : ∀ k, k < 1 → parseFieldDescriptor (F_TR k).2.2.1 = some (t_TR k) := by decide +kernel
def F_IS : u_T := fun k => match k with
  | 0 => ("ImageStores", "images", "Ljava/util/ArrayList;", true)
  | 1 => ("ImageStores", "differentLayers", "Ljava/util/ArrayList;", true)
  | 2 => ("ImageStores", "builderStore", "LImageStores$Store;", true)
  | 3 => ("ImageStores", "otherStore", "LImageStores$Store;", true)
  | 4 => ("ImageStores", "draft", "LImageStores$Tree;", true)
  | 5 => ("ImageStores", "layerSeen", "[Z", true)
  | _ => ("ImageStores", "answeredAgain", "I", false)
def t_IS : Nat → FieldType := fun k => match k with
  | 0 => .object "java/util/ArrayList"
  | 1 => .object "java/util/ArrayList"
  | 2 => .object "ImageStores$Store"
  | 3 => .object "ImageStores$Store"
  | 4 => .object "ImageStores$Tree"
  | 5 => .array .boolean
  | _ => .int
theorem n_IS : ∀ a, a < 7 → ∀ b, b < 7 → a ≠ b → (F_IS a).2.1 ≠ (F_IS b).2.1 := by decide +kernel
theorem p_IS : ∀ k, k < 7 → parseFieldDescriptor (F_IS k).2.2.1 = some (t_IS k) := by decide +kernel
def F_MO : u_T := fun k => match k with
  | 0 => ("ImageStoresModel", "parent", "[I", true)
  | 1 => ("ImageStoresModel", "tree", "[J", true)
  | 2 => ("ImageStoresModel", "made", "I", false)
  | 3 => ("ImageStoresModel", "holds", "[Z", true)
  | 4 => ("ImageStoresModel", "tags", "[I", true)
  | 5 => ("ImageStoresModel", "work", "[J", true)
  | 6 => ("ImageStoresModel", "chosen", "[Z", true)
  | _ => ("ImageStoresModel", "again", "I", false)
def t_MO : Nat → FieldType := fun k => match k with
  | 0 => .array .int
  | 1 => .array .long
  | 2 => .int
  | 3 => .array .boolean
  | 4 => .array .int
  | 5 => .array .long
  | 6 => .array .boolean
  | _ => .int
theorem n_MO : ∀ a, a < 8 → ∀ b, b < 8 → a ≠ b → (F_MO a).2.1 ≠ (F_MO b).2.1 := by decide +kernel
theorem p_MO : ∀ k, k < 8 → parseFieldDescriptor (F_MO k).2.2.1 = some (t_MO k) := by decide +kernel
abbrev x_cl : List vw_C := [("java/util/ArrayList", F_AL, 3), ("ImageStores$Image", F_IM, 3), ("ImageStores$Layer", F_LY, 2), ("ImageStores$Store", F_ST, 2), ("ImageStores$Tree", F_TR, 1), ("ImageStores", F_IS, 7), ("ImageStoresModel", F_MO, 8)]
abbrev b_IS_init : ByteArray := prog_1_method_1_code
abbrev y_IS_init : MethodName := ⟨"ImageStores", "<init>", "()V"⟩
abbrev b_OJ_init : ByteArray := object_method_1_code
abbrev y_OJ_init : MethodName := ⟨"java/lang/Object", "<init>", "()V"⟩
abbrev b_AL_init : ByteArray := prog_16_method_2_code
abbrev y_AL_init : MethodName := ⟨"java/util/ArrayList", "<init>", "()V"⟩
abbrev b_AB_init : ByteArray := prog_15_method_1_code
abbrev y_AB_init : MethodName := ⟨"java/util/AbstractList", "<init>", "()V"⟩
abbrev b_AC_init : ByteArray := prog_14_method_1_code
abbrev y_AC_init : MethodName := ⟨"java/util/AbstractCollection", "<init>", "()V"⟩
abbrev b_ST_init : ByteArray := prog_5_method_1_code
abbrev y_ST_init : MethodName := ⟨"ImageStores$Store", "<init>", "()V"⟩
abbrev b_AR_fillI : ByteArray := prog_17_method_103_code
abbrev y_AR_fillI : MethodName := ⟨"java/util/Arrays", "fill", "([II)V"⟩
abbrev b_TR_init : ByteArray := prog_6_method_1_code
abbrev y_TR_init : MethodName := ⟨"ImageStores$Tree", "<init>", "()V"⟩
abbrev b_AR_fillJ : ByteArray := prog_17_method_101_code
abbrev y_AR_fillJ : MethodName := ⟨"java/util/Arrays", "fill", "([JJ)V"⟩
abbrev b_IM_init : ByteArray := prog_2_method_1_code
abbrev y_IM_init : MethodName := ⟨"ImageStores$Image", "<init>", "(ILImageStores$Tree;[I)V"⟩
abbrev b_AL_add1 : ByteArray := prog_16_method_25_code
abbrev y_AL_add1 : MethodName := ⟨"java/util/ArrayList", "add", "(Ljava/lang/Object;)Z"⟩
abbrev b_AL_add3 : ByteArray := prog_16_method_24_code
abbrev y_AL_add3 : MethodName := ⟨"java/util/ArrayList", "add", "(Ljava/lang/Object;[Ljava/lang/Object;I)V"⟩
abbrev b_AL_grow0 : ByteArray := prog_16_method_7_code
abbrev y_AL_grow0 : MethodName := ⟨"java/util/ArrayList", "grow", "()[Ljava/lang/Object;"⟩
abbrev b_AL_growI : ByteArray := prog_16_method_6_code
abbrev y_AL_growI : MethodName := ⟨"java/util/ArrayList", "grow", "(I)[Ljava/lang/Object;"⟩
abbrev b_SU_newLength : ByteArray := prog_23_method_27_code
abbrev y_SU_newLength : MethodName := ⟨"jdk/internal/util/ArraysSupport", "newLength", "(III)I"⟩
abbrev b_MA_max : ByteArray := prog_12_method_65_code
abbrev y_MA_max : MethodName := ⟨"java/lang/Math", "max", "(II)I"⟩
abbrev b_SU_hugeLength : ByteArray := prog_23_method_28_code
abbrev y_SU_hugeLength : MethodName := ⟨"jdk/internal/util/ArraysSupport", "hugeLength", "(II)I"⟩
abbrev b_AR_copyOf2 : ByteArray := prog_17_method_119_code
abbrev y_AR_copyOf2 : MethodName := ⟨"java/util/Arrays", "copyOf", "([Ljava/lang/Object;I)[Ljava/lang/Object;"⟩
abbrev b_AR_copyOf3 : ByteArray := prog_17_method_120_code
abbrev y_AR_copyOf3 : MethodName := ⟨"java/util/Arrays", "copyOf", "([Ljava/lang/Object;ILjava/lang/Class;)[Ljava/lang/Object;"⟩
abbrev b_MA_min : ByteArray := prog_12_method_69_code
abbrev y_MA_min : MethodName := ⟨"java/lang/Math", "min", "(II)I"⟩
abbrev b_IS_build : ByteArray := prog_1_method_2_code
abbrev y_IS_build : MethodName := ⟨"ImageStores", "build", "(IIII)I"⟩
abbrev b_IS_isMade : ByteArray := prog_1_method_19_code
abbrev y_IS_isMade : MethodName := ⟨"ImageStores", "isMade", "(I)Z"⟩
abbrev b_AL_size : ByteArray := prog_16_method_8_code
abbrev y_AL_size : MethodName := ⟨"java/util/ArrayList", "size", "()I"⟩
abbrev b_ST_holds : ByteArray := prog_5_method_2_code
abbrev y_ST_holds : MethodName := ⟨"ImageStores$Store", "holds", "(I)Z"⟩
abbrev b_AL_get : ByteArray := prog_16_method_20_code
abbrev y_AL_get : MethodName := ⟨"java/util/ArrayList", "get", "(I)Ljava/lang/Object;"⟩
abbrev b_OB_checkIndex : ByteArray := prog_20_method_17_code
abbrev y_OB_checkIndex : MethodName := ⟨"java/util/Objects", "checkIndex", "(II)I"⟩
abbrev b_PR_checkIndex : ByteArray := prog_24_method_11_code
abbrev y_PR_checkIndex : MethodName := ⟨"jdk/internal/util/Preconditions", "checkIndex", "(IILjava/util/function/BiFunction;)I"⟩
abbrev b_AL_elementData : ByteArray := prog_16_method_18_code
abbrev y_AL_elementData : MethodName := ⟨"java/util/ArrayList", "elementData", "(I)Ljava/lang/Object;"⟩
abbrev b_TR_become : ByteArray := prog_6_method_3_code
abbrev y_TR_become : MethodName := ⟨"ImageStores$Tree", "become", "(LImageStores$Tree;)V"⟩
abbrev b_TR_change : ByteArray := prog_6_method_6_code
abbrev y_TR_change : MethodName := ⟨"ImageStores$Tree", "change", "(III)Z"⟩
abbrev b_PA_isLegal : ByteArray := prog_4_method_3_code
abbrev y_PA_isLegal : MethodName := ⟨"ImageStores$Path", "isLegal", "(I)Z"⟩
abbrev b_TR_writeFile : ByteArray := prog_6_method_7_code
abbrev y_TR_writeFile : MethodName := ⟨"ImageStores$Tree", "writeFile", "(II)Z"⟩
abbrev b_TR_liesBelowFile : ByteArray := prog_6_method_14_code
abbrev y_TR_liesBelowFile : MethodName := ⟨"ImageStores$Tree", "liesBelowFile", "(I)Z"⟩
abbrev b_PA_parent : ByteArray := prog_4_method_5_code
abbrev y_PA_parent : MethodName := ⟨"ImageStores$Path", "parent", "(I)I"⟩
abbrev b_PA_names : ByteArray := prog_4_method_4_code
abbrev y_PA_names : MethodName := ⟨"ImageStores$Path", "names", "(I)I"⟩
abbrev b_TR_isFile : ByteArray := prog_6_method_13_code
abbrev y_TR_isFile : MethodName := ⟨"ImageStores$Tree", "isFile", "(I)Z"⟩
abbrev b_TR_makeAllAbove : ByteArray := prog_6_method_15_code
abbrev y_TR_makeAllAbove : MethodName := ⟨"ImageStores$Tree", "makeAllAbove", "(I)V"⟩
abbrev b_TR_makeDirectory : ByteArray := prog_6_method_8_code
abbrev y_TR_makeDirectory : MethodName := ⟨"ImageStores$Tree", "makeDirectory", "(I)Z"⟩
abbrev b_TR_removeAll : ByteArray := prog_6_method_9_code
abbrev y_TR_removeAll : MethodName := ⟨"ImageStores$Tree", "removeAll", "(I)Z"⟩
abbrev b_PA_end : ByteArray := prog_4_method_6_code
abbrev y_PA_end : MethodName := ⟨"ImageStores$Path", "end", "(I)I"⟩
abbrev b_TR_copyAll : ByteArray := prog_6_method_10_code
abbrev y_TR_copyAll : MethodName := ⟨"ImageStores$Tree", "copyAll", "(II)Z"⟩
abbrev b_TR_mayCopy : ByteArray := prog_6_method_11_code
abbrev y_TR_mayCopy : MethodName := ⟨"ImageStores$Tree", "mayCopy", "(II)Z"⟩
abbrev b_TR_fitsAt : ByteArray := prog_6_method_12_code
abbrev y_TR_fitsAt : MethodName := ⟨"ImageStores$Tree", "fitsAt", "(II)Z"⟩
abbrev b_PA_namesWhenPut : ByteArray := prog_4_method_7_code
abbrev y_PA_namesWhenPut : MethodName := ⟨"ImageStores$Path", "namesWhenPut", "(III)I"⟩
abbrev b_PA_whenPut : ByteArray := prog_4_method_8_code
abbrev y_PA_whenPut : MethodName := ⟨"ImageStores$Path", "whenPut", "(III)I"⟩
abbrev b_IS_answerDraftOn : ByteArray := prog_1_method_27_code
abbrev y_IS_answerDraftOn : MethodName := ⟨"ImageStores", "answerDraftOn", "(I)I"⟩
abbrev b_TR_sameAs : ByteArray := prog_6_method_4_code
abbrev y_TR_sameAs : MethodName := ⟨"ImageStores$Tree", "sameAs", "(LImageStores$Tree;)Z"⟩
abbrev b_IS_answerHeld : ByteArray := prog_1_method_28_code
abbrev y_IS_answerHeld : MethodName := ⟨"ImageStores", "answerHeld", "(I)I"⟩
abbrev b_ST_hold : ByteArray := prog_5_method_3_code
abbrev y_ST_hold : MethodName := ⟨"ImageStores$Store", "hold", "(I)V"⟩
abbrev b_IS_newImageOn : ByteArray := prog_1_method_29_code
abbrev y_IS_newImageOn : MethodName := ⟨"ImageStores", "newImageOn", "(I)LImageStores$Image;"⟩
abbrev b_AR_copyOfI : ByteArray := prog_17_method_123_code
abbrev y_AR_copyOfI : MethodName := ⟨"java/util/Arrays", "copyOf", "([II)[I"⟩
abbrev b_LY_init : ByteArray := prog_3_method_1_code
abbrev y_LY_init : MethodName := ⟨"ImageStores$Layer", "<init>", "(LImageStores$Tree;LImageStores$Tree;)V"⟩
abbrev b_LY_changeAt : ByteArray := prog_3_method_2_code
abbrev y_LY_changeAt : MethodName := ⟨"ImageStores$Layer", "changeAt", "(ILImageStores$Tree;LImageStores$Tree;)J"⟩
abbrev b_TR_at : ByteArray := prog_6_method_2_code
abbrev y_TR_at : MethodName := ⟨"ImageStores$Tree", "at", "(I)J"⟩
abbrev b_IS_numberOfLayer : ByteArray := prog_1_method_30_code
abbrev y_IS_numberOfLayer : MethodName := ⟨"ImageStores", "numberOfLayer", "(LImageStores$Layer;)I"⟩
abbrev b_LY_sameAs : ByteArray := prog_3_method_4_code
abbrev y_LY_sameAs : MethodName := ⟨"ImageStores$Layer", "sameAs", "(LImageStores$Layer;)Z"⟩
abbrev b_IS_flatten : ByteArray := prog_1_method_3_code
abbrev y_IS_flatten : MethodName := ⟨"ImageStores", "flatten", "(I)I"⟩
abbrev b_IS_tag : ByteArray := prog_1_method_4_code
abbrev y_IS_tag : MethodName := ⟨"ImageStores", "tag", "(III)I"⟩
abbrev b_IS_isStore : ByteArray := prog_1_method_20_code
abbrev y_IS_isStore : MethodName := ⟨"ImageStores", "isStore", "(I)Z"⟩
abbrev b_IS_isTag : ByteArray := prog_1_method_21_code
abbrev y_IS_isTag : MethodName := ⟨"ImageStores", "isTag", "(I)Z"⟩
abbrev b_IS_storeOf : ByteArray := prog_1_method_22_code
abbrev y_IS_storeOf : MethodName := ⟨"ImageStores", "storeOf", "(I)LImageStores$Store;"⟩
abbrev b_ST_nameOf : ByteArray := prog_5_method_4_code
abbrev y_ST_nameOf : MethodName := ⟨"ImageStores$Store", "nameOf", "(I)I"⟩
abbrev b_ST_giveName : ByteArray := prog_5_method_5_code
abbrev y_ST_giveName : MethodName := ⟨"ImageStores$Store", "giveName", "(II)V"⟩
abbrev b_IS_untag : ByteArray := prog_1_method_5_code
abbrev y_IS_untag : MethodName := ⟨"ImageStores", "untag", "(II)I"⟩
abbrev b_IS_namesImage : ByteArray := prog_1_method_23_code
abbrev y_IS_namesImage : MethodName := ⟨"ImageStores", "namesImage", "(II)Z"⟩
abbrev b_IS_send : ByteArray := prog_1_method_6_code
abbrev y_IS_send : MethodName := ⟨"ImageStores", "send", "(II)I"⟩
abbrev b_IS_layersIn : ByteArray := prog_1_method_31_code
abbrev y_IS_layersIn : MethodName := ⟨"ImageStores", "layersIn", "(LImageStores$Store;)I"⟩
abbrev b_IS_seeLayersOf : ByteArray := prog_1_method_33_code
abbrev y_IS_seeLayersOf : MethodName := ⟨"ImageStores", "seeLayersOf", "(LImageStores$Store;)V"⟩
abbrev b_IS_collect : ByteArray := prog_1_method_7_code
abbrev y_IS_collect : MethodName := ⟨"ImageStores", "collect", "(I)I"⟩
abbrev b_ST_holdOnlyNamed : ByteArray := prog_5_method_6_code
abbrev y_ST_holdOnlyNamed : MethodName := ⟨"ImageStores$Store", "holdOnlyNamed", "()V"⟩
abbrev b_IS_named : ByteArray := prog_1_method_8_code
abbrev y_IS_named : MethodName := ⟨"ImageStores", "named", "(II)I"⟩
abbrev b_IS_held : ByteArray := prog_1_method_9_code
abbrev y_IS_held : MethodName := ⟨"ImageStores", "held", "(II)Z"⟩
abbrev b_IS_look : ByteArray := prog_1_method_10_code
abbrev y_IS_look : MethodName := ⟨"ImageStores", "look", "(II)J"⟩
abbrev b_PA_inRange : ByteArray := prog_4_method_2_code
abbrev y_PA_inRange : MethodName := ⟨"ImageStores$Path", "inRange", "(I)Z"⟩
abbrev b_IS_next : ByteArray := prog_1_method_11_code
abbrev y_IS_next : MethodName := ⟨"ImageStores", "next", "(II)I"⟩
abbrev b_TR_presentAfter : ByteArray := prog_6_method_5_code
abbrev y_TR_presentAfter : MethodName := ⟨"ImageStores$Tree", "presentAfter", "(I)I"⟩
abbrev b_IS_layers : ByteArray := prog_1_method_12_code
abbrev y_IS_layers : MethodName := ⟨"ImageStores", "layers", "(I)I"⟩
abbrev b_IS_entries : ByteArray := prog_1_method_13_code
abbrev y_IS_entries : MethodName := ⟨"ImageStores", "entries", "(II)I"⟩
abbrev b_IS_hasLayer : ByteArray := prog_1_method_24_code
abbrev y_IS_hasLayer : MethodName := ⟨"ImageStores", "hasLayer", "(II)Z"⟩
abbrev b_IS_layerOf : ByteArray := prog_1_method_26_code
abbrev y_IS_layerOf : MethodName := ⟨"ImageStores", "layerOf", "(II)LImageStores$Layer;"⟩
abbrev b_LY_size : ByteArray := prog_3_method_3_code
abbrev y_LY_size : MethodName := ⟨"ImageStores$Layer", "size", "()I"⟩
abbrev b_IS_entryPath : ByteArray := prog_1_method_14_code
abbrev y_IS_entryPath : MethodName := ⟨"ImageStores", "entryPath", "(III)I"⟩
abbrev b_IS_hasEntry : ByteArray := prog_1_method_25_code
abbrev y_IS_hasEntry : MethodName := ⟨"ImageStores", "hasEntry", "(III)Z"⟩
abbrev b_IS_entryMark : ByteArray := prog_1_method_15_code
abbrev y_IS_entryMark : MethodName := ⟨"ImageStores", "entryMark", "(III)J"⟩
abbrev b_IS_common : ByteArray := prog_1_method_16_code
abbrev y_IS_common : MethodName := ⟨"ImageStores", "common", "(II)I"⟩
abbrev b_IS_shared : ByteArray := prog_1_method_17_code
abbrev y_IS_shared : MethodName := ⟨"ImageStores", "shared", "(II)I"⟩
abbrev b_IM_hasLayerNumber : ByteArray := prog_2_method_2_code
abbrev y_IM_hasLayerNumber : MethodName := ⟨"ImageStores$Image", "hasLayerNumber", "(I)Z"⟩
abbrev b_IS_count : ByteArray := prog_1_method_18_code
abbrev y_IS_count : MethodName := ⟨"ImageStores", "count", "(I)I"⟩
abbrev b_IS_entriesIn : ByteArray := prog_1_method_32_code
abbrev y_IS_entriesIn : MethodName := ⟨"ImageStores", "entriesIn", "(LImageStores$Store;)I"⟩
abbrev b_MO_init : ByteArray := prog_8_method_1_code
abbrev y_MO_init : MethodName := ⟨"ImageStoresModel", "<init>", "()V"⟩
abbrev b_MO_build : ByteArray := prog_8_method_22_code
abbrev y_MO_build : MethodName := ⟨"ImageStoresModel", "build", "(IIII)I"⟩
abbrev b_MO_holding : ByteArray := prog_8_method_10_code
abbrev y_MO_holding : MethodName := ⟨"ImageStoresModel", "holding", "(II)Z"⟩
abbrev b_MO_is : ByteArray := prog_8_method_9_code
abbrev y_MO_is : MethodName := ⟨"ImageStoresModel", "is", "(I)Z"⟩
abbrev b_MO_legal : ByteArray := prog_8_method_3_code
abbrev y_MO_legal : MethodName := ⟨"ImageStoresModel", "legal", "(I)Z"⟩
abbrev b_MO_load : ByteArray := prog_8_method_19_code
abbrev y_MO_load : MethodName := ⟨"ImageStoresModel", "load", "(I)V"⟩
abbrev b_MO_change : ByteArray := prog_8_method_17_code
abbrev y_MO_change : MethodName := ⟨"ImageStoresModel", "change", "(III)Z"⟩
abbrev b_MO_underFile : ByteArray := prog_8_method_12_code
abbrev y_MO_underFile : MethodName := ⟨"ImageStoresModel", "underFile", "(I)Z"⟩
abbrev b_MO_depth : ByteArray := prog_8_method_2_code
abbrev y_MO_depth : MethodName := ⟨"ImageStoresModel", "depth", "(I)I"⟩
abbrev b_MO_head : ByteArray := prog_8_method_4_code
abbrev y_MO_head : MethodName := ⟨"ImageStoresModel", "head", "(II)I"⟩
abbrev b_MO_file : ByteArray := prog_8_method_8_code
abbrev y_MO_file : MethodName := ⟨"ImageStoresModel", "file", "(J)Z"⟩
abbrev b_MO_raise : ByteArray := prog_8_method_13_code
abbrev y_MO_raise : MethodName := ⟨"ImageStoresModel", "raise", "(IJ)Z"⟩
abbrev b_MO_wipe : ByteArray := prog_8_method_14_code
abbrev y_MO_wipe : MethodName := ⟨"ImageStoresModel", "wipe", "(I)Z"⟩
abbrev b_MO_below : ByteArray := prog_8_method_6_code
abbrev y_MO_below : MethodName := ⟨"ImageStoresModel", "below", "(II)Z"⟩
abbrev b_MO_copy : ByteArray := prog_8_method_16_code
abbrev y_MO_copy : MethodName := ⟨"ImageStoresModel", "copy", "(II)Z"⟩
abbrev b_MO_above : ByteArray := prog_8_method_5_code
abbrev y_MO_above : MethodName := ⟨"ImageStoresModel", "above", "(I)I"⟩
abbrev b_MO_carried : ByteArray := prog_8_method_15_code
abbrev y_MO_carried : MethodName := ⟨"ImageStoresModel", "carried", "(III)I"⟩
abbrev b_MO_name : ByteArray := prog_8_method_7_code
abbrev y_MO_name : MethodName := ⟨"ImageStoresModel", "name", "(II)I"⟩
abbrev b_MO_image : ByteArray := prog_8_method_21_code
abbrev y_MO_image : MethodName := ⟨"ImageStoresModel", "image", "(I)I"⟩
abbrev b_MO_workIs : ByteArray := prog_8_method_18_code
abbrev y_MO_workIs : MethodName := ⟨"ImageStoresModel", "workIs", "(I)Z"⟩
abbrev b_MO_answer : ByteArray := prog_8_method_20_code
abbrev y_MO_answer : MethodName := ⟨"ImageStoresModel", "answer", "(I)I"⟩
abbrev b_MO_flatten : ByteArray := prog_8_method_23_code
abbrev y_MO_flatten : MethodName := ⟨"ImageStoresModel", "flatten", "(I)I"⟩
abbrev b_MO_tag : ByteArray := prog_8_method_34_code
abbrev y_MO_tag : MethodName := ⟨"ImageStoresModel", "tag", "(III)I"⟩
abbrev b_MO_badTag : ByteArray := prog_8_method_11_code
abbrev y_MO_badTag : MethodName := ⟨"ImageStoresModel", "badTag", "(II)Z"⟩
abbrev b_MO_untag : ByteArray := prog_8_method_35_code
abbrev y_MO_untag : MethodName := ⟨"ImageStoresModel", "untag", "(II)I"⟩
abbrev b_MO_send : ByteArray := prog_8_method_36_code
abbrev y_MO_send : MethodName := ⟨"ImageStoresModel", "send", "(II)I"⟩
abbrev b_MO_chooseHeld : ByteArray := prog_8_method_31_code
abbrev y_MO_chooseHeld : MethodName := ⟨"ImageStoresModel", "chooseHeld", "(I)V"⟩
abbrev b_MO_chooseNone : ByteArray := prog_8_method_30_code
abbrev y_MO_chooseNone : MethodName := ⟨"ImageStoresModel", "chooseNone", "()V"⟩
abbrev b_MO_choose : ByteArray := prog_8_method_29_code
abbrev y_MO_choose : MethodName := ⟨"ImageStoresModel", "choose", "(I)V"⟩
abbrev b_MO_different : ByteArray := prog_8_method_33_code
abbrev y_MO_different : MethodName := ⟨"ImageStoresModel", "different", "(Z)I"⟩
abbrev b_MO_there : ByteArray := prog_8_method_32_code
abbrev y_MO_there : MethodName := ⟨"ImageStoresModel", "there", "(II)Z"⟩
abbrev b_MO_same : ByteArray := prog_8_method_25_code
abbrev y_MO_same : MethodName := ⟨"ImageStoresModel", "same", "(II)Z"⟩
abbrev b_MO_mark : ByteArray := prog_8_method_24_code
abbrev y_MO_mark : MethodName := ⟨"ImageStoresModel", "mark", "(II)J"⟩
abbrev b_MO_size : ByteArray := prog_8_method_26_code
abbrev y_MO_size : MethodName := ⟨"ImageStoresModel", "size", "(I)I"⟩
abbrev b_MO_collect : ByteArray := prog_8_method_37_code
abbrev y_MO_collect : MethodName := ⟨"ImageStoresModel", "collect", "(I)I"⟩
abbrev b_MO_named : ByteArray := prog_8_method_38_code
abbrev y_MO_named : MethodName := ⟨"ImageStoresModel", "named", "(II)I"⟩
abbrev b_MO_held : ByteArray := prog_8_method_39_code
abbrev y_MO_held : MethodName := ⟨"ImageStoresModel", "held", "(II)Z"⟩
abbrev b_MO_look : ByteArray := prog_8_method_40_code
abbrev y_MO_look : MethodName := ⟨"ImageStoresModel", "look", "(II)J"⟩
abbrev b_MO_next : ByteArray := prog_8_method_41_code
abbrev y_MO_next : MethodName := ⟨"ImageStoresModel", "next", "(II)I"⟩
abbrev b_MO_layers : ByteArray := prog_8_method_42_code
abbrev y_MO_layers : MethodName := ⟨"ImageStoresModel", "layers", "(I)I"⟩
abbrev b_MO_layerCount : ByteArray := prog_8_method_27_code
abbrev y_MO_layerCount : MethodName := ⟨"ImageStoresModel", "layerCount", "(I)I"⟩
abbrev b_MO_entries : ByteArray := prog_8_method_43_code
abbrev y_MO_entries : MethodName := ⟨"ImageStoresModel", "entries", "(II)I"⟩
abbrev b_MO_owner : ByteArray := prog_8_method_28_code
abbrev y_MO_owner : MethodName := ⟨"ImageStoresModel", "owner", "(II)I"⟩
abbrev b_MO_entryPath : ByteArray := prog_8_method_44_code
abbrev y_MO_entryPath : MethodName := ⟨"ImageStoresModel", "entryPath", "(III)I"⟩
abbrev b_MO_entryMark : ByteArray := prog_8_method_45_code
abbrev y_MO_entryMark : MethodName := ⟨"ImageStoresModel", "entryMark", "(III)J"⟩
abbrev b_MO_common : ByteArray := prog_8_method_46_code
abbrev y_MO_common : MethodName := ⟨"ImageStoresModel", "common", "(II)I"⟩
abbrev b_MO_shared : ByteArray := prog_8_method_47_code
abbrev y_MO_shared : MethodName := ⟨"ImageStoresModel", "shared", "(II)I"⟩
abbrev b_MO_count : ByteArray := prog_8_method_48_code
abbrev y_MO_count : MethodName := ⟨"ImageStoresModel", "count", "(I)I"⟩
abbrev b_LW_law : ByteArray := code
abbrev y_LW_law : MethodName := ⟨"ImageStoresLaw", "law", "([I)Z"⟩
end
section
theorem k0 : (Jvm.Cond.initialized "ImageStoresLaw") ∈ x_tb := x_i1 (i := 0) (by decide +kernel) (by decide +kernel)
theorem k1 : (Jvm.Cond.initialized "ImageStores") ∈ x_tb := x_i1 (i := 1) (by decide +kernel) (by decide +kernel)
theorem k2 : (Jvm.Cond.initialized "java/util/AbstractCollection") ∈ x_tb := x_i1 (i := 2) (by decide +kernel) (by decide +kernel)
theorem k3 : (Jvm.Cond.initialized "java/util/AbstractList") ∈ x_tb := x_i1 (i := 3) (by decide +kernel) (by decide +kernel)
theorem k4 : (Jvm.Cond.initialized "java/util/ArrayList") ∈ x_tb := x_i1 (i := 4) (by decide +kernel) (by decide +kernel)
theorem k5 : (Jvm.Cond.initialized "ImageStores$Store") ∈ x_tb := x_i1 (i := 5) (by decide +kernel) (by decide +kernel)
theorem k6 : (Jvm.Cond.initialized "java/util/Arrays") ∈ x_tb := x_i1 (i := 6) (by decide +kernel) (by decide +kernel)
theorem k7 : (Jvm.Cond.initialized "ImageStores$Tree") ∈ x_tb := x_i1 (i := 7) (by decide +kernel) (by decide +kernel)
theorem k8 : (Jvm.Cond.initialized "ImageStores$Image") ∈ x_tb := x_i1 (i := 8) (by decide +kernel) (by decide +kernel)
theorem k9 : (Jvm.Cond.initialized "jdk/internal/util/ArraysSupport") ∈ x_tb := x_i1 (i := 9) (by decide +kernel) (by decide +kernel)
theorem k10 : (Jvm.Cond.initialized "java/lang/Math") ∈ x_tb := x_i1 (i := 10) (by decide +kernel) (by decide +kernel)
theorem k11 : (Jvm.Cond.initialized "java/lang/System") ∈ x_tb := x_i1 (i := 11) (by decide +kernel) (by decide +kernel)
theorem k12 : (Jvm.Cond.initialized "ImageStoresModel") ∈ x_tb := x_i1 (i := 12) (by decide +kernel) (by decide +kernel)
theorem k13 : (Jvm.Cond.initialized "java/util/Objects") ∈ x_tb := x_i1 (i := 13) (by decide +kernel) (by decide +kernel)
theorem k14 : (Jvm.Cond.initialized "jdk/internal/util/Preconditions") ∈ x_tb := x_i1 (i := 14) (by decide +kernel) (by decide +kernel)
theorem k15 : (Jvm.Cond.initialized "ImageStores$Path") ∈ x_tb := x_i1 (i := 15) (by decide +kernel) (by decide +kernel)
theorem k16 : (Jvm.Cond.initialized "ImageStores$Layer") ∈ x_tb := x_i1 (i := 16) (by decide +kernel) (by decide +kernel)
theorem k17 : (Jvm.Cond.classLink "ImageStoresLaw" (7 : Nat) "ImageStores") ∈ x_tb := x_i1 (i := 17) (by decide +kernel) (by decide +kernel)
theorem k18 : (Jvm.Cond.instantiable "ImageStores" (7 : Nat)) ∈ x_tb := x_i1 (i := 18) (by decide +kernel) (by decide +kernel)
theorem k19 : (Jvm.Cond.methodLink "ImageStoresLaw" (9 : Nat) ({ cls := "ImageStores", name := "<init>", desc := "()V" } : Jvm.MethodName)) ∈ x_tb := x_i1 (i := 19) (by decide +kernel) (by decide +kernel)
theorem k20 : (Jvm.Cond.instanceMethod ({ cls := "ImageStores", name := "<init>", desc := "()V" } : Jvm.MethodName)) ∈ x_tb := x_i1 (i := 20) (by decide +kernel) (by decide +kernel)
theorem k21 : (Jvm.Cond.code ({ cls := "ImageStores", name := "<init>", desc := "()V" } : Jvm.MethodName) prog_1_method_1_code (1 : Nat) (Option.none : Option Jvm.ClassFile.FieldType)) ∈ x_tb := x_i1 (i := 21) (by decide +kernel) (by decide +kernel)
theorem k22 : (Jvm.Cond.methodLink "ImageStores" (1 : Nat) ({ cls := "java/lang/Object", name := "<init>", desc := "()V" } : Jvm.MethodName)) ∈ x_tb := x_i1 (i := 22) (by decide +kernel) (by decide +kernel)
theorem k23 : (Jvm.Cond.instanceMethod ({ cls := "java/lang/Object", name := "<init>", desc := "()V" } : Jvm.MethodName)) ∈ x_tb := x_i1 (i := 23) (by decide +kernel) (by decide +kernel)
theorem k24 : (Jvm.Cond.code ({ cls := "java/lang/Object", name := "<init>", desc := "()V" } : Jvm.MethodName) object_method_1_code (1 : Nat) (Option.none : Option Jvm.ClassFile.FieldType)) ∈ x_tb := x_i1 (i := 24) (by decide +kernel) (by decide +kernel)
theorem k25 : (Jvm.Cond.classLink "ImageStores" (7 : Nat) "java/util/ArrayList") ∈ x_tb := x_i1 (i := 25) (by decide +kernel) (by decide +kernel)
theorem k26 : (Jvm.Cond.instantiable "java/util/ArrayList" (3 : Nat)) ∈ x_tb := x_i1 (i := 26) (by decide +kernel) (by decide +kernel)
theorem k27 : (Jvm.Cond.methodLink "ImageStores" (9 : Nat) ({ cls := "java/util/ArrayList", name := "<init>", desc := "()V" } : Jvm.MethodName)) ∈ x_tb := x_i1 (i := 27) (by decide +kernel) (by decide +kernel)
theorem k28 : (Jvm.Cond.instanceMethod ({ cls := "java/util/ArrayList", name := "<init>", desc := "()V" } : Jvm.MethodName)) ∈ x_tb := x_i1 (i := 28) (by decide +kernel) (by decide +kernel)
theorem k29 : (Jvm.Cond.code ({ cls := "java/util/ArrayList", name := "<init>", desc := "()V" } : Jvm.MethodName) prog_16_method_2_code (1 : Nat) (Option.none : Option Jvm.ClassFile.FieldType)) ∈ x_tb := x_i1 (i := 29) (by decide +kernel) (by decide +kernel)
theorem k30 : (Jvm.Cond.methodLink "java/util/ArrayList" (1 : Nat) ({ cls := "java/util/AbstractList", name := "<init>", desc := "()V" } : Jvm.MethodName)) ∈ x_tb := x_i1 (i := 30) (by decide +kernel) (by decide +kernel)
theorem k31 : (Jvm.Cond.instanceMethod ({ cls := "java/util/AbstractList", name := "<init>", desc := "()V" } : Jvm.MethodName)) ∈ x_tb := x_i1 (i := 31) (by decide +kernel) (by decide +kernel)
theorem k32 : (Jvm.Cond.code ({ cls := "java/util/AbstractList", name := "<init>", desc := "()V" } : Jvm.MethodName) prog_15_method_1_code (1 : Nat) (Option.none : Option Jvm.ClassFile.FieldType)) ∈ x_tb := x_i1 (i := 32) (by decide +kernel) (by decide +kernel)
theorem k33 : (Jvm.Cond.methodLink "java/util/AbstractList" (1 : Nat) ({ cls := "java/util/AbstractCollection", name := "<init>", desc := "()V" } : Jvm.MethodName)) ∈ x_tb := x_i1 (i := 33) (by decide +kernel) (by decide +kernel)
theorem k34 : (Jvm.Cond.instanceMethod ({ cls := "java/util/AbstractCollection", name := "<init>", desc := "()V" } : Jvm.MethodName)) ∈ x_tb := x_i1 (i := 34) (by decide +kernel) (by decide +kernel)
theorem k35 : (Jvm.Cond.code ({ cls := "java/util/AbstractCollection", name := "<init>", desc := "()V" } : Jvm.MethodName) prog_14_method_1_code (1 : Nat) (Option.none : Option Jvm.ClassFile.FieldType)) ∈ x_tb := x_i1 (i := 35) (by decide +kernel) (by decide +kernel)
theorem k36 : (Jvm.Cond.methodLink "java/util/AbstractCollection" (1 : Nat) ({ cls := "java/lang/Object", name := "<init>", desc := "()V" } : Jvm.MethodName)) ∈ x_tb := x_i1 (i := 36) (by decide +kernel) (by decide +kernel)
theorem k37 : (Jvm.Cond.fieldLink "java/util/ArrayList" (39 : Nat) "java/util/ArrayList" "DEFAULTCAPACITY_EMPTY_ELEMENTDATA" "[Ljava/lang/Object;") ∈ x_tb := x_i1 (i := 37) (by decide +kernel) (by decide +kernel)
theorem kn38 : (Jvm.Cond.laysStatic "java/util/ArrayList" "DEFAULTCAPACITY_EMPTY_ELEMENTDATA" "[Ljava/lang/Object;") ∈ lw_tbl := List.mem_append_right _ (List.mem_append_left _ (List.mem_of_getElem? (i := 38) (by decide +kernel)))
theorem k39 : (Jvm.Cond.fieldLink "java/util/ArrayList" (9 : Nat) "java/util/ArrayList" "elementData" "[Ljava/lang/Object;") ∈ x_tb := x_i1 (i := 39) (by decide +kernel) (by decide +kernel)
theorem k40 : (Jvm.Cond.fieldLink "java/util/ArrayList" (48 : Nat) "java/util/ArrayList" "size" "I") ∈ x_tb := x_i1 (i := 40) (by decide +kernel) (by decide +kernel)
theorem k41 : (Jvm.Cond.fieldLink "java/util/AbstractList" (7 : Nat) "java/util/AbstractList" "modCount" "I") ∈ x_tb := x_i1 (i := 41) (by decide +kernel) (by decide +kernel)
theorem k42 : (Jvm.Cond.fieldLink "java/util/ArrayList" (63 : Nat) "java/util/ArrayList" "modCount" "I") ∈ x_tb := x_i1 (i := 42) (by decide +kernel) (by decide +kernel)
theorem k43 : (Jvm.Cond.sameField "java/util/ArrayList" "java/util/AbstractList" "modCount" "I") ∈ x_tb := x_i1 (i := 43) (by decide +kernel) (by decide +kernel)
theorem k44 : (Jvm.Cond.lays "java/util/ArrayList" "java/util/ArrayList" "elementData" "[Ljava/lang/Object;") ∈ x_tb := x_i1 (i := 44) (by decide +kernel) (by decide +kernel)
theorem k46 : (Jvm.Cond.lays "java/util/ArrayList" "java/util/ArrayList" "size" "I") ∈ x_tb := x_i1 (i := 46) (by decide +kernel) (by decide +kernel)
theorem k48 : (Jvm.Cond.lays "java/util/ArrayList" "java/util/AbstractList" "modCount" "I") ∈ x_tb := x_i1 (i := 48) (by decide +kernel) (by decide +kernel)
theorem k51 : (Jvm.Cond.classLink "ImageStores" (19 : Nat) "ImageStores$Store") ∈ x_tb := x_i1 (i := 51) (by decide +kernel) (by decide +kernel)
theorem k52 : (Jvm.Cond.instantiable "ImageStores$Store" (2 : Nat)) ∈ x_tb := x_i1 (i := 52) (by decide +kernel) (by decide +kernel)
theorem k53 : (Jvm.Cond.methodLink "ImageStores" (21 : Nat) ({ cls := "ImageStores$Store", name := "<init>", desc := "()V" } : Jvm.MethodName)) ∈ x_tb := x_i1 (i := 53) (by decide +kernel) (by decide +kernel)
theorem k54 : (Jvm.Cond.instanceMethod ({ cls := "ImageStores$Store", name := "<init>", desc := "()V" } : Jvm.MethodName)) ∈ x_tb := x_i1 (i := 54) (by decide +kernel) (by decide +kernel)
theorem k55 : (Jvm.Cond.code ({ cls := "ImageStores$Store", name := "<init>", desc := "()V" } : Jvm.MethodName) prog_5_method_1_code (1 : Nat) (Option.none : Option Jvm.ClassFile.FieldType)) ∈ x_tb := x_i1 (i := 55) (by decide +kernel) (by decide +kernel)
theorem k56 : (Jvm.Cond.methodLink "ImageStores$Store" (3 : Nat) ({ cls := "java/lang/Object", name := "<init>", desc := "()V" } : Jvm.MethodName)) ∈ x_tb := x_i1 (i := 56) (by decide +kernel) (by decide +kernel)
theorem k57 : (Jvm.Cond.methodLink "ImageStores$Store" (19 : Nat) ({ cls := "java/util/Arrays", name := "fill", desc := "([II)V" } : Jvm.MethodName)) ∈ x_tb := x_i1 (i := 57) (by decide +kernel) (by decide +kernel)
theorem k58 : (Jvm.Cond.static ({ cls := "java/util/Arrays", name := "fill", desc := "([II)V" } : Jvm.MethodName)) ∈ x_tb := x_i1 (i := 58) (by decide +kernel) (by decide +kernel)
theorem k59 : (Jvm.Cond.code ({ cls := "java/util/Arrays", name := "fill", desc := "([II)V" } : Jvm.MethodName) prog_17_method_103_code (4 : Nat) (Option.none : Option Jvm.ClassFile.FieldType)) ∈ x_tb := x_i1 (i := 59) (by decide +kernel) (by decide +kernel)
theorem k60 : (Jvm.Cond.fieldLink "ImageStores$Store" (9 : Nat) "ImageStores$Store" "holding" "[Z") ∈ x_tb := x_i1 (i := 60) (by decide +kernel) (by decide +kernel)
theorem k61 : (Jvm.Cond.fieldLink "ImageStores$Store" (15 : Nat) "ImageStores$Store" "names" "[I") ∈ x_tb := x_i1 (i := 61) (by decide +kernel) (by decide +kernel)
theorem k62 : (Jvm.Cond.laysFinal "ImageStores$Store" "ImageStores$Store" "holding" "[Z") ∈ x_tb := x_i1 (i := 62) (by decide +kernel) (by decide +kernel)
theorem k64 : (Jvm.Cond.laysFinal "ImageStores$Store" "ImageStores$Store" "names" "[I") ∈ x_tb := x_i1 (i := 64) (by decide +kernel) (by decide +kernel)
theorem k67 : (Jvm.Cond.arrayClass Jvm.ClassFile.FieldType.boolean) ∈ x_tb := x_i1 (i := 67) (by decide +kernel) (by decide +kernel)
theorem k68 : (Jvm.Cond.arrayClass Jvm.ClassFile.FieldType.int) ∈ x_tb := x_i1 (i := 68) (by decide +kernel) (by decide +kernel)
theorem k69 : (Jvm.Cond.classLink "ImageStores" (29 : Nat) "ImageStores$Tree") ∈ x_tb := x_i1 (i := 69) (by decide +kernel) (by decide +kernel)
theorem k70 : (Jvm.Cond.instantiable "ImageStores$Tree" (1 : Nat)) ∈ x_tb := x_i1 (i := 70) (by decide +kernel) (by decide +kernel)
theorem k71 : (Jvm.Cond.methodLink "ImageStores" (31 : Nat) ({ cls := "ImageStores$Tree", name := "<init>", desc := "()V" } : Jvm.MethodName)) ∈ x_tb := x_i1 (i := 71) (by decide +kernel) (by decide +kernel)
theorem k72 : (Jvm.Cond.instanceMethod ({ cls := "ImageStores$Tree", name := "<init>", desc := "()V" } : Jvm.MethodName)) ∈ x_tb := x_i1 (i := 72) (by decide +kernel) (by decide +kernel)
theorem k73 : (Jvm.Cond.code ({ cls := "ImageStores$Tree", name := "<init>", desc := "()V" } : Jvm.MethodName) prog_6_method_1_code (1 : Nat) (Option.none : Option Jvm.ClassFile.FieldType)) ∈ x_tb := x_i1 (i := 73) (by decide +kernel) (by decide +kernel)
theorem k74 : (Jvm.Cond.methodLink "ImageStores$Tree" (3 : Nat) ({ cls := "java/lang/Object", name := "<init>", desc := "()V" } : Jvm.MethodName)) ∈ x_tb := x_i1 (i := 74) (by decide +kernel) (by decide +kernel)
theorem k75 : (Jvm.Cond.constantLong "ImageStores$Tree" (15 : Nat) (10000000000 : Int64)) ∈ x_tb := x_i1 (i := 75) (by decide +kernel) (by decide +kernel)
theorem k76 : (Jvm.Cond.methodLink "ImageStores$Tree" (17 : Nat) ({ cls := "java/util/Arrays", name := "fill", desc := "([JJ)V" } : Jvm.MethodName)) ∈ x_tb := x_i1 (i := 76) (by decide +kernel) (by decide +kernel)
theorem k77 : (Jvm.Cond.static ({ cls := "java/util/Arrays", name := "fill", desc := "([JJ)V" } : Jvm.MethodName)) ∈ x_tb := x_i1 (i := 77) (by decide +kernel) (by decide +kernel)
theorem k78 : (Jvm.Cond.code ({ cls := "java/util/Arrays", name := "fill", desc := "([JJ)V" } : Jvm.MethodName) prog_17_method_101_code (5 : Nat) (Option.none : Option Jvm.ClassFile.FieldType)) ∈ x_tb := x_i1 (i := 78) (by decide +kernel) (by decide +kernel)
theorem k79 : (Jvm.Cond.constantLong "ImageStores$Tree" (23 : Nat) (10000000001 : Int64)) ∈ x_tb := x_i1 (i := 79) (by decide +kernel) (by decide +kernel)
theorem k80 : (Jvm.Cond.fieldLink "ImageStores$Tree" (9 : Nat) "ImageStores$Tree" "marks" "[J") ∈ x_tb := x_i1 (i := 80) (by decide +kernel) (by decide +kernel)
theorem k81 : (Jvm.Cond.laysFinal "ImageStores$Tree" "ImageStores$Tree" "marks" "[J") ∈ x_tb := x_i1 (i := 81) (by decide +kernel) (by decide +kernel)
theorem k84 : (Jvm.Cond.arrayClass Jvm.ClassFile.FieldType.long) ∈ x_tb := x_i1 (i := 84) (by decide +kernel) (by decide +kernel)
theorem k85 : (Jvm.Cond.classLink "ImageStores" (44 : Nat) "ImageStores$Image") ∈ x_tb := x_i1 (i := 85) (by decide +kernel) (by decide +kernel)
theorem k86 : (Jvm.Cond.instantiable "ImageStores$Image" (3 : Nat)) ∈ x_tb := x_i1 (i := 86) (by decide +kernel) (by decide +kernel)
theorem k87 : (Jvm.Cond.methodLink "ImageStores" (46 : Nat) ({ cls := "ImageStores$Image", name := "<init>", desc := "(ILImageStores$Tree;[I)V" } : Jvm.MethodName)) ∈ x_tb := x_i1 (i := 87) (by decide +kernel) (by decide +kernel)
theorem k88 : (Jvm.Cond.instanceMethod ({ cls := "ImageStores$Image", name := "<init>", desc := "(ILImageStores$Tree;[I)V" } : Jvm.MethodName)) ∈ x_tb := x_i1 (i := 88) (by decide +kernel) (by decide +kernel)
theorem k89 : (Jvm.Cond.code ({ cls := "ImageStores$Image", name := "<init>", desc := "(ILImageStores$Tree;[I)V" } : Jvm.MethodName) prog_2_method_1_code (4 : Nat) (Option.none : Option Jvm.ClassFile.FieldType)) ∈ x_tb := x_i1 (i := 89) (by decide +kernel) (by decide +kernel)
theorem k90 : (Jvm.Cond.methodLink "ImageStores$Image" (1 : Nat) ({ cls := "java/lang/Object", name := "<init>", desc := "()V" } : Jvm.MethodName)) ∈ x_tb := x_i1 (i := 90) (by decide +kernel) (by decide +kernel)
theorem k91 : (Jvm.Cond.fieldLink "ImageStores$Image" (7 : Nat) "ImageStores$Image" "parent" "I") ∈ x_tb := x_i1 (i := 91) (by decide +kernel) (by decide +kernel)
theorem kn92 : (Jvm.Cond.fieldLinkNest "ImageStores" (172 : Nat) "ImageStores$Image" "parent" "I" "ImageStores") ∈ lw_tbl := List.mem_append_right _ (List.mem_append_left _ (List.mem_of_getElem? (i := 92) (by decide +kernel)))
theorem k93 : (Jvm.Cond.fieldLink "ImageStores$Image" (13 : Nat) "ImageStores$Image" "tree" "LImageStores$Tree;") ∈ x_tb := x_i1 (i := 93) (by decide +kernel) (by decide +kernel)
theorem kn94 : (Jvm.Cond.fieldLinkNest "ImageStores" (64 : Nat) "ImageStores$Image" "tree" "LImageStores$Tree;" "ImageStores") ∈ lw_tbl := List.mem_append_right _ (List.mem_append_left _ (List.mem_of_getElem? (i := 94) (by decide +kernel)))
theorem k95 : (Jvm.Cond.fieldLink "ImageStores$Image" (17 : Nat) "ImageStores$Image" "layerNumbers" "[I") ∈ x_tb := x_i1 (i := 95) (by decide +kernel) (by decide +kernel)
theorem kn96 : (Jvm.Cond.fieldLinkNest "ImageStores" (125 : Nat) "ImageStores$Image" "layerNumbers" "[I" "ImageStores") ∈ lw_tbl := List.mem_append_right _ (List.mem_append_left _ (List.mem_of_getElem? (i := 96) (by decide +kernel)))
theorem k97 : (Jvm.Cond.laysFinal "ImageStores$Image" "ImageStores$Image" "parent" "I") ∈ x_tb := x_i1 (i := 97) (by decide +kernel) (by decide +kernel)
theorem k99 : (Jvm.Cond.laysFinal "ImageStores$Image" "ImageStores$Image" "tree" "LImageStores$Tree;") ∈ x_tb := x_i1 (i := 99) (by decide +kernel) (by decide +kernel)
theorem k101 : (Jvm.Cond.laysFinal "ImageStores$Image" "ImageStores$Image" "layerNumbers" "[I") ∈ x_tb := x_i1 (i := 101) (by decide +kernel) (by decide +kernel)
theorem k104 : (Jvm.Cond.methodLink "ImageStores" (49 : Nat) ({ cls := "java/util/ArrayList", name := "add", desc := "(Ljava/lang/Object;)Z" } : Jvm.MethodName)) ∈ x_tb := x_i1 (i := 104) (by decide +kernel) (by decide +kernel)
theorem k105 : (Jvm.Cond.instanceMethod ({ cls := "java/util/ArrayList", name := "add", desc := "(Ljava/lang/Object;)Z" } : Jvm.MethodName)) ∈ x_tb := x_i1 (i := 105) (by decide +kernel) (by decide +kernel)
theorem k106 : (Jvm.Cond.selects "java/util/ArrayList" ({ cls := "java/util/ArrayList", name := "add", desc := "(Ljava/lang/Object;)Z" } : Jvm.MethodName) ({ cls := "java/util/ArrayList", name := "add", desc := "(Ljava/lang/Object;)Z" } : Jvm.MethodName)) ∈ x_tb := x_i1 (i := 106) (by decide +kernel) (by decide +kernel)
theorem k107 : (Jvm.Cond.code ({ cls := "java/util/ArrayList", name := "add", desc := "(Ljava/lang/Object;)Z" } : Jvm.MethodName) prog_16_method_25_code (2 : Nat) (Option.some Jvm.ClassFile.FieldType.boolean)) ∈ x_tb := x_i1 (i := 107) (by decide +kernel) (by decide +kernel)
theorem k108 : (Jvm.Cond.methodLink "java/util/ArrayList" (131 : Nat) ({ cls := "java/util/ArrayList", name := "add", desc := "(Ljava/lang/Object;[Ljava/lang/Object;I)V" } : Jvm.MethodName)) ∈ x_tb := x_i1 (i := 108) (by decide +kernel) (by decide +kernel)
theorem k110 : (Jvm.Cond.instanceMethod ({ cls := "java/util/ArrayList", name := "add", desc := "(Ljava/lang/Object;[Ljava/lang/Object;I)V" } : Jvm.MethodName)) ∈ x_tb := x_i1 (i := 110) (by decide +kernel) (by decide +kernel)
theorem k111 : (Jvm.Cond.code ({ cls := "java/util/ArrayList", name := "add", desc := "(Ljava/lang/Object;[Ljava/lang/Object;I)V" } : Jvm.MethodName) prog_16_method_24_code (4 : Nat) (Option.none : Option Jvm.ClassFile.FieldType)) ∈ x_tb := x_i1 (i := 111) (by decide +kernel) (by decide +kernel)
theorem k112 : (Jvm.Cond.methodLink "java/util/ArrayList" (129 : Nat) ({ cls := "java/util/ArrayList", name := "grow", desc := "()[Ljava/lang/Object;" } : Jvm.MethodName)) ∈ x_tb := x_i1 (i := 112) (by decide +kernel) (by decide +kernel)
theorem k114 : (Jvm.Cond.instanceMethod ({ cls := "java/util/ArrayList", name := "grow", desc := "()[Ljava/lang/Object;" } : Jvm.MethodName)) ∈ x_tb := x_i1 (i := 114) (by decide +kernel) (by decide +kernel)
theorem k115 : (Jvm.Cond.code ({ cls := "java/util/ArrayList", name := "grow", desc := "()[Ljava/lang/Object;" } : Jvm.MethodName) prog_16_method_7_code (1 : Nat) (Option.some (Jvm.ClassFile.FieldType.array (Jvm.ClassFile.FieldType.object "java/lang/Object")))) ∈ x_tb := x_i1 (i := 115) (by decide +kernel) (by decide +kernel)
theorem k116 : (Jvm.Cond.methodLink "java/util/ArrayList" (69 : Nat) ({ cls := "java/util/ArrayList", name := "grow", desc := "(I)[Ljava/lang/Object;" } : Jvm.MethodName)) ∈ x_tb := x_i1 (i := 116) (by decide +kernel) (by decide +kernel)
theorem k118 : (Jvm.Cond.instanceMethod ({ cls := "java/util/ArrayList", name := "grow", desc := "(I)[Ljava/lang/Object;" } : Jvm.MethodName)) ∈ x_tb := x_i1 (i := 118) (by decide +kernel) (by decide +kernel)
theorem k119 : (Jvm.Cond.code ({ cls := "java/util/ArrayList", name := "grow", desc := "(I)[Ljava/lang/Object;" } : Jvm.MethodName) prog_16_method_6_code (4 : Nat) (Option.some (Jvm.ClassFile.FieldType.array (Jvm.ClassFile.FieldType.object "java/lang/Object")))) ∈ x_tb := x_i1 (i := 119) (by decide +kernel) (by decide +kernel)
theorem k120 : (Jvm.Cond.methodLink "java/util/ArrayList" (73 : Nat) ({ cls := "jdk/internal/util/ArraysSupport", name := "newLength", desc := "(III)I" } : Jvm.MethodName)) ∈ x_tb := x_i1 (i := 120) (by decide +kernel) (by decide +kernel)
theorem k121 : (Jvm.Cond.static ({ cls := "jdk/internal/util/ArraysSupport", name := "newLength", desc := "(III)I" } : Jvm.MethodName)) ∈ x_tb := x_i1 (i := 121) (by decide +kernel) (by decide +kernel)
theorem k122 : (Jvm.Cond.code ({ cls := "jdk/internal/util/ArraysSupport", name := "newLength", desc := "(III)I" } : Jvm.MethodName) prog_23_method_27_code (4 : Nat) (Option.some Jvm.ClassFile.FieldType.int)) ∈ x_tb := x_i1 (i := 122) (by decide +kernel) (by decide +kernel)
theorem k123 : (Jvm.Cond.methodLink "jdk/internal/util/ArraysSupport" (194 : Nat) ({ cls := "java/lang/Math", name := "max", desc := "(II)I" } : Jvm.MethodName)) ∈ x_tb := x_i1 (i := 123) (by decide +kernel) (by decide +kernel)
theorem k124 : (Jvm.Cond.static ({ cls := "java/lang/Math", name := "max", desc := "(II)I" } : Jvm.MethodName)) ∈ x_tb := x_i1 (i := 124) (by decide +kernel) (by decide +kernel)
theorem k125 : (Jvm.Cond.code ({ cls := "java/lang/Math", name := "max", desc := "(II)I" } : Jvm.MethodName) prog_12_method_65_code (2 : Nat) (Option.some Jvm.ClassFile.FieldType.int)) ∈ x_tb := x_i1 (i := 125) (by decide +kernel) (by decide +kernel)
theorem k126 : (Jvm.Cond.constant "jdk/internal/util/ArraysSupport" (200 : Nat) (2147483639 : Int32)) ∈ x_tb := x_i1 (i := 126) (by decide +kernel) (by decide +kernel)
theorem k127 : (Jvm.Cond.methodLink "jdk/internal/util/ArraysSupport" (201 : Nat) ({ cls := "jdk/internal/util/ArraysSupport", name := "hugeLength", desc := "(II)I" } : Jvm.MethodName)) ∈ x_tb := x_i1 (i := 127) (by decide +kernel) (by decide +kernel)
theorem k128 : (Jvm.Cond.static ({ cls := "jdk/internal/util/ArraysSupport", name := "hugeLength", desc := "(II)I" } : Jvm.MethodName)) ∈ x_tb := x_i1 (i := 128) (by decide +kernel) (by decide +kernel)
theorem k129 : (Jvm.Cond.code ({ cls := "jdk/internal/util/ArraysSupport", name := "hugeLength", desc := "(II)I" } : Jvm.MethodName) prog_23_method_28_code (3 : Nat) (Option.some Jvm.ClassFile.FieldType.int)) ∈ x_tb := x_i1 (i := 129) (by decide +kernel) (by decide +kernel)
theorem k130 : (Jvm.Cond.methodLink "java/util/ArrayList" (66 : Nat) ({ cls := "java/util/Arrays", name := "copyOf", desc := "([Ljava/lang/Object;I)[Ljava/lang/Object;" } : Jvm.MethodName)) ∈ x_tb := x_i1 (i := 130) (by decide +kernel) (by decide +kernel)
theorem k131 : (Jvm.Cond.static ({ cls := "java/util/Arrays", name := "copyOf", desc := "([Ljava/lang/Object;I)[Ljava/lang/Object;" } : Jvm.MethodName)) ∈ x_tb := x_i1 (i := 131) (by decide +kernel) (by decide +kernel)
theorem k132 : (Jvm.Cond.code ({ cls := "java/util/Arrays", name := "copyOf", desc := "([Ljava/lang/Object;I)[Ljava/lang/Object;" } : Jvm.MethodName) prog_17_method_119_code (2 : Nat) (Option.some (Jvm.ClassFile.FieldType.array (Jvm.ClassFile.FieldType.object "java/lang/Object")))) ∈ x_tb := x_i1 (i := 132) (by decide +kernel) (by decide +kernel)
theorem k133 : (Jvm.Cond.methodLink "java/util/Arrays" (86 : Nat) ({ cls := "java/lang/Object", name := "getClass", desc := "()Ljava/lang/Class;" } : Jvm.MethodName)) ∈ x_tb := x_i1 (i := 133) (by decide +kernel) (by decide +kernel)
theorem k134 : (Jvm.Cond.instanceMethod ({ cls := "java/lang/Object", name := "getClass", desc := "()Ljava/lang/Class;" } : Jvm.MethodName)) ∈ x_tb := x_i1 (i := 134) (by decide +kernel) (by decide +kernel)
theorem kn135 : (Jvm.Cond.sameMethod "java/lang/Object" "java/lang/Object" "getClass" "()Ljava/lang/Class;") ∈ lw_tbl := List.mem_append_right _ (List.mem_append_left _ (List.mem_of_getElem? (i := 135) (by decide +kernel)))
theorem k136 : (Jvm.Cond.selects "ImageStores" ({ cls := "java/lang/Object", name := "getClass", desc := "()Ljava/lang/Class;" } : Jvm.MethodName) ({ cls := "java/lang/Object", name := "getClass", desc := "()Ljava/lang/Class;" } : Jvm.MethodName)) ∈ x_tb := x_i1 (i := 136) (by decide +kernel) (by decide +kernel)
theorem k137 : (Jvm.Cond.selects "ImageStores$Image" ({ cls := "java/lang/Object", name := "getClass", desc := "()Ljava/lang/Class;" } : Jvm.MethodName) ({ cls := "java/lang/Object", name := "getClass", desc := "()Ljava/lang/Class;" } : Jvm.MethodName)) ∈ x_tb := x_i1 (i := 137) (by decide +kernel) (by decide +kernel)
theorem k138 : (Jvm.Cond.selects "ImageStores$Layer" ({ cls := "java/lang/Object", name := "getClass", desc := "()Ljava/lang/Class;" } : Jvm.MethodName) ({ cls := "java/lang/Object", name := "getClass", desc := "()Ljava/lang/Class;" } : Jvm.MethodName)) ∈ x_tb := x_i1 (i := 138) (by decide +kernel) (by decide +kernel)
theorem k139 : (Jvm.Cond.selects "ImageStores$Store" ({ cls := "java/lang/Object", name := "getClass", desc := "()Ljava/lang/Class;" } : Jvm.MethodName) ({ cls := "java/lang/Object", name := "getClass", desc := "()Ljava/lang/Class;" } : Jvm.MethodName)) ∈ x_tb := x_i1 (i := 139) (by decide +kernel) (by decide +kernel)
theorem k140 : (Jvm.Cond.selects "ImageStores$Tree" ({ cls := "java/lang/Object", name := "getClass", desc := "()Ljava/lang/Class;" } : Jvm.MethodName) ({ cls := "java/lang/Object", name := "getClass", desc := "()Ljava/lang/Class;" } : Jvm.MethodName)) ∈ x_tb := x_i1 (i := 140) (by decide +kernel) (by decide +kernel)
theorem k141 : (Jvm.Cond.selects "ImageStoresModel" ({ cls := "java/lang/Object", name := "getClass", desc := "()Ljava/lang/Class;" } : Jvm.MethodName) ({ cls := "java/lang/Object", name := "getClass", desc := "()Ljava/lang/Class;" } : Jvm.MethodName)) ∈ x_tb := x_i1 (i := 141) (by decide +kernel) (by decide +kernel)
theorem k142 : (Jvm.Cond.selects "java/util/ArrayList" ({ cls := "java/lang/Object", name := "getClass", desc := "()Ljava/lang/Class;" } : Jvm.MethodName) ({ cls := "java/lang/Object", name := "getClass", desc := "()Ljava/lang/Class;" } : Jvm.MethodName)) ∈ x_tb := x_i1 (i := 142) (by decide +kernel) (by decide +kernel)
theorem k143 : (Jvm.Cond.native ({ cls := "java/lang/Object", name := "getClass", desc := "()Ljava/lang/Class;" } : Jvm.MethodName)) ∈ x_tb := x_i1 (i := 143) (by decide +kernel) (by decide +kernel)
theorem k144 : (Jvm.Cond.methodLink "java/util/Arrays" (300 : Nat) ({ cls := "java/util/Arrays", name := "copyOf", desc := "([Ljava/lang/Object;ILjava/lang/Class;)[Ljava/lang/Object;" } : Jvm.MethodName)) ∈ x_tb := x_i1 (i := 144) (by decide +kernel) (by decide +kernel)
theorem k145 : (Jvm.Cond.static ({ cls := "java/util/Arrays", name := "copyOf", desc := "([Ljava/lang/Object;ILjava/lang/Class;)[Ljava/lang/Object;" } : Jvm.MethodName)) ∈ x_tb := x_i1 (i := 145) (by decide +kernel) (by decide +kernel)
theorem k146 : (Jvm.Cond.code ({ cls := "java/util/Arrays", name := "copyOf", desc := "([Ljava/lang/Object;ILjava/lang/Class;)[Ljava/lang/Object;" } : Jvm.MethodName) prog_17_method_120_code (4 : Nat) (Option.some (Jvm.ClassFile.FieldType.array (Jvm.ClassFile.FieldType.object "java/lang/Object")))) ∈ x_tb := x_i1 (i := 146) (by decide +kernel) (by decide +kernel)
theorem k147 : (Jvm.Cond.classLink "java/util/Arrays" (110 : Nat) "[Ljava/lang/Object;") ∈ x_tb := x_i1 (i := 147) (by decide +kernel) (by decide +kernel)
theorem kn148 : (Jvm.Cond.arrayOver (Jvm.ClassFile.FieldType.object "java/lang/Object")) ∈ lw_tbl := List.mem_append_right _ (List.mem_append_left _ (List.mem_of_getElem? (i := 148) (by decide +kernel)))
theorem k149 : (Jvm.Cond.classLink "java/util/Arrays" (2 : Nat) "java/lang/Object") ∈ x_tb := x_i1 (i := 149) (by decide +kernel) (by decide +kernel)
theorem k150 : (Jvm.Cond.methodLink "java/util/Arrays" (304 : Nat) ({ cls := "java/lang/Math", name := "min", desc := "(II)I" } : Jvm.MethodName)) ∈ x_tb := x_i1 (i := 150) (by decide +kernel) (by decide +kernel)
theorem k151 : (Jvm.Cond.static ({ cls := "java/lang/Math", name := "min", desc := "(II)I" } : Jvm.MethodName)) ∈ x_tb := x_i1 (i := 151) (by decide +kernel) (by decide +kernel)
theorem k152 : (Jvm.Cond.code ({ cls := "java/lang/Math", name := "min", desc := "(II)I" } : Jvm.MethodName) prog_12_method_69_code (2 : Nat) (Option.some Jvm.ClassFile.FieldType.int)) ∈ x_tb := x_i1 (i := 152) (by decide +kernel) (by decide +kernel)
theorem k153 : (Jvm.Cond.methodLink "java/util/Arrays" (150 : Nat) ({ cls := "java/lang/System", name := "arraycopy", desc := "(Ljava/lang/Object;ILjava/lang/Object;II)V" } : Jvm.MethodName)) ∈ x_tb := x_i1 (i := 153) (by decide +kernel) (by decide +kernel)
theorem k154 : (Jvm.Cond.static ({ cls := "java/lang/System", name := "arraycopy", desc := "(Ljava/lang/Object;ILjava/lang/Object;II)V" } : Jvm.MethodName)) ∈ x_tb := x_i1 (i := 154) (by decide +kernel) (by decide +kernel)
theorem k155 : (Jvm.Cond.native ({ cls := "java/lang/System", name := "arraycopy", desc := "(Ljava/lang/Object;ILjava/lang/Object;II)V" } : Jvm.MethodName)) ∈ x_tb := x_i1 (i := 155) (by decide +kernel) (by decide +kernel)
theorem k156 : (Jvm.Cond.methodLink "java/util/ArrayList" (79 : Nat) ({ cls := "java/lang/Math", name := "max", desc := "(II)I" } : Jvm.MethodName)) ∈ x_tb := x_i1 (i := 156) (by decide +kernel) (by decide +kernel)
theorem k157 : (Jvm.Cond.classLink "java/util/ArrayList" (7 : Nat) "java/lang/Object") ∈ x_tb := x_i1 (i := 157) (by decide +kernel) (by decide +kernel)
theorem k158 : (Jvm.Cond.fieldLink "ImageStores" (10 : Nat) "ImageStores" "images" "Ljava/util/ArrayList;") ∈ x_tb := x_i1 (i := 158) (by decide +kernel) (by decide +kernel)
theorem k159 : (Jvm.Cond.fieldLink "ImageStores" (16 : Nat) "ImageStores" "differentLayers" "Ljava/util/ArrayList;") ∈ x_tb := x_i1 (i := 159) (by decide +kernel) (by decide +kernel)
theorem k160 : (Jvm.Cond.fieldLink "ImageStores" (22 : Nat) "ImageStores" "builderStore" "LImageStores$Store;") ∈ x_tb := x_i1 (i := 160) (by decide +kernel) (by decide +kernel)
theorem k161 : (Jvm.Cond.fieldLink "ImageStores" (26 : Nat) "ImageStores" "otherStore" "LImageStores$Store;") ∈ x_tb := x_i1 (i := 161) (by decide +kernel) (by decide +kernel)
theorem k162 : (Jvm.Cond.fieldLink "ImageStores" (32 : Nat) "ImageStores" "draft" "LImageStores$Tree;") ∈ x_tb := x_i1 (i := 162) (by decide +kernel) (by decide +kernel)
theorem k163 : (Jvm.Cond.fieldLink "ImageStores" (36 : Nat) "ImageStores" "layerSeen" "[Z") ∈ x_tb := x_i1 (i := 163) (by decide +kernel) (by decide +kernel)
theorem k164 : (Jvm.Cond.fieldLink "ImageStores" (40 : Nat) "ImageStores" "answeredAgain" "I") ∈ x_tb := x_i1 (i := 164) (by decide +kernel) (by decide +kernel)
theorem k165 : (Jvm.Cond.laysFinal "ImageStores" "ImageStores" "images" "Ljava/util/ArrayList;") ∈ x_tb := x_i1 (i := 165) (by decide +kernel) (by decide +kernel)
theorem k167 : (Jvm.Cond.laysFinal "ImageStores" "ImageStores" "differentLayers" "Ljava/util/ArrayList;") ∈ x_tb := x_i1 (i := 167) (by decide +kernel) (by decide +kernel)
theorem k169 : (Jvm.Cond.laysFinal "ImageStores" "ImageStores" "builderStore" "LImageStores$Store;") ∈ x_tb := x_i1 (i := 169) (by decide +kernel) (by decide +kernel)
theorem k171 : (Jvm.Cond.laysFinal "ImageStores" "ImageStores" "otherStore" "LImageStores$Store;") ∈ x_tb := x_i1 (i := 171) (by decide +kernel) (by decide +kernel)
theorem k173 : (Jvm.Cond.laysFinal "ImageStores" "ImageStores" "draft" "LImageStores$Tree;") ∈ x_tb := x_i1 (i := 173) (by decide +kernel) (by decide +kernel)
theorem k175 : (Jvm.Cond.laysFinal "ImageStores" "ImageStores" "layerSeen" "[Z") ∈ x_tb := x_i1 (i := 175) (by decide +kernel) (by decide +kernel)
theorem k177 : (Jvm.Cond.lays "ImageStores" "ImageStores" "answeredAgain" "I") ∈ x_tb := x_i1 (i := 177) (by decide +kernel) (by decide +kernel)
theorem k180 : (Jvm.Cond.methodLink "ImageStoresLaw" (13 : Nat) ({ cls := "ImageStores", name := "build", desc := "(IIII)I" } : Jvm.MethodName)) ∈ x_tb := x_i1 (i := 180) (by decide +kernel) (by decide +kernel)
theorem k181 : (Jvm.Cond.instanceMethod ({ cls := "ImageStores", name := "build", desc := "(IIII)I" } : Jvm.MethodName)) ∈ x_tb := x_i1 (i := 181) (by decide +kernel) (by decide +kernel)
theorem k182 : (Jvm.Cond.selects "ImageStores" ({ cls := "ImageStores", name := "build", desc := "(IIII)I" } : Jvm.MethodName) ({ cls := "ImageStores", name := "build", desc := "(IIII)I" } : Jvm.MethodName)) ∈ x_tb := x_i1 (i := 182) (by decide +kernel) (by decide +kernel)
theorem k183 : (Jvm.Cond.code ({ cls := "ImageStores", name := "build", desc := "(IIII)I" } : Jvm.MethodName) prog_1_method_2_code (5 : Nat) (Option.some Jvm.ClassFile.FieldType.int)) ∈ x_tb := x_i1 (i := 183) (by decide +kernel) (by decide +kernel)
theorem k184 : (Jvm.Cond.methodLink "ImageStores" (53 : Nat) ({ cls := "ImageStores", name := "isMade", desc := "(I)Z" } : Jvm.MethodName)) ∈ x_tb := x_i1 (i := 184) (by decide +kernel) (by decide +kernel)
theorem k186 : (Jvm.Cond.instanceMethod ({ cls := "ImageStores", name := "isMade", desc := "(I)Z" } : Jvm.MethodName)) ∈ x_tb := x_i1 (i := 186) (by decide +kernel) (by decide +kernel)
theorem k187 : (Jvm.Cond.code ({ cls := "ImageStores", name := "isMade", desc := "(I)Z" } : Jvm.MethodName) prog_1_method_19_code (2 : Nat) (Option.some Jvm.ClassFile.FieldType.boolean)) ∈ x_tb := x_i1 (i := 187) (by decide +kernel) (by decide +kernel)
theorem k188 : (Jvm.Cond.methodLink "ImageStores" (161 : Nat) ({ cls := "java/util/ArrayList", name := "size", desc := "()I" } : Jvm.MethodName)) ∈ x_tb := x_i1 (i := 188) (by decide +kernel) (by decide +kernel)
theorem k189 : (Jvm.Cond.instanceMethod ({ cls := "java/util/ArrayList", name := "size", desc := "()I" } : Jvm.MethodName)) ∈ x_tb := x_i1 (i := 189) (by decide +kernel) (by decide +kernel)
theorem k190 : (Jvm.Cond.selects "java/util/ArrayList" ({ cls := "java/util/ArrayList", name := "size", desc := "()I" } : Jvm.MethodName) ({ cls := "java/util/ArrayList", name := "size", desc := "()I" } : Jvm.MethodName)) ∈ x_tb := x_i1 (i := 190) (by decide +kernel) (by decide +kernel)
theorem k191 : (Jvm.Cond.code ({ cls := "java/util/ArrayList", name := "size", desc := "()I" } : Jvm.MethodName) prog_16_method_8_code (1 : Nat) (Option.some Jvm.ClassFile.FieldType.int)) ∈ x_tb := x_i1 (i := 191) (by decide +kernel) (by decide +kernel)
theorem k192 : (Jvm.Cond.methodLink "ImageStores" (57 : Nat) ({ cls := "ImageStores$Store", name := "holds", desc := "(I)Z" } : Jvm.MethodName)) ∈ x_tb := x_i1 (i := 192) (by decide +kernel) (by decide +kernel)
theorem k193 : (Jvm.Cond.instanceMethod ({ cls := "ImageStores$Store", name := "holds", desc := "(I)Z" } : Jvm.MethodName)) ∈ x_tb := x_i1 (i := 193) (by decide +kernel) (by decide +kernel)
theorem k194 : (Jvm.Cond.selects "ImageStores$Store" ({ cls := "ImageStores$Store", name := "holds", desc := "(I)Z" } : Jvm.MethodName) ({ cls := "ImageStores$Store", name := "holds", desc := "(I)Z" } : Jvm.MethodName)) ∈ x_tb := x_i1 (i := 194) (by decide +kernel) (by decide +kernel)
theorem k195 : (Jvm.Cond.code ({ cls := "ImageStores$Store", name := "holds", desc := "(I)Z" } : Jvm.MethodName) prog_5_method_2_code (2 : Nat) (Option.some Jvm.ClassFile.FieldType.boolean)) ∈ x_tb := x_i1 (i := 195) (by decide +kernel) (by decide +kernel)
theorem k196 : (Jvm.Cond.methodLink "ImageStores" (60 : Nat) ({ cls := "java/util/ArrayList", name := "get", desc := "(I)Ljava/lang/Object;" } : Jvm.MethodName)) ∈ x_tb := x_i1 (i := 196) (by decide +kernel) (by decide +kernel)
theorem k197 : (Jvm.Cond.instanceMethod ({ cls := "java/util/ArrayList", name := "get", desc := "(I)Ljava/lang/Object;" } : Jvm.MethodName)) ∈ x_tb := x_i1 (i := 197) (by decide +kernel) (by decide +kernel)
theorem k198 : (Jvm.Cond.selects "java/util/ArrayList" ({ cls := "java/util/ArrayList", name := "get", desc := "(I)Ljava/lang/Object;" } : Jvm.MethodName) ({ cls := "java/util/ArrayList", name := "get", desc := "(I)Ljava/lang/Object;" } : Jvm.MethodName)) ∈ x_tb := x_i1 (i := 198) (by decide +kernel) (by decide +kernel)
theorem k199 : (Jvm.Cond.code ({ cls := "java/util/ArrayList", name := "get", desc := "(I)Ljava/lang/Object;" } : Jvm.MethodName) prog_16_method_20_code (2 : Nat) (Option.some (Jvm.ClassFile.FieldType.object "java/lang/Object"))) ∈ x_tb := x_i1 (i := 199) (by decide +kernel) (by decide +kernel)
theorem k200 : (Jvm.Cond.methodLink "java/util/ArrayList" (118 : Nat) ({ cls := "java/util/Objects", name := "checkIndex", desc := "(II)I" } : Jvm.MethodName)) ∈ x_tb := x_i1 (i := 200) (by decide +kernel) (by decide +kernel)
theorem k201 : (Jvm.Cond.static ({ cls := "java/util/Objects", name := "checkIndex", desc := "(II)I" } : Jvm.MethodName)) ∈ x_tb := x_i1 (i := 201) (by decide +kernel) (by decide +kernel)
theorem k202 : (Jvm.Cond.code ({ cls := "java/util/Objects", name := "checkIndex", desc := "(II)I" } : Jvm.MethodName) prog_20_method_17_code (2 : Nat) (Option.some Jvm.ClassFile.FieldType.int)) ∈ x_tb := x_i1 (i := 202) (by decide +kernel) (by decide +kernel)
theorem k203 : (Jvm.Cond.methodLink "java/util/Objects" (105 : Nat) ({ cls := "jdk/internal/util/Preconditions", name := "checkIndex", desc := "(IILjava/util/function/BiFunction;)I" } : Jvm.MethodName)) ∈ x_tb := x_i1 (i := 203) (by decide +kernel) (by decide +kernel)
theorem k204 : (Jvm.Cond.static ({ cls := "jdk/internal/util/Preconditions", name := "checkIndex", desc := "(IILjava/util/function/BiFunction;)I" } : Jvm.MethodName)) ∈ x_tb := x_i1 (i := 204) (by decide +kernel) (by decide +kernel)
theorem k205 : (Jvm.Cond.code ({ cls := "jdk/internal/util/Preconditions", name := "checkIndex", desc := "(IILjava/util/function/BiFunction;)I" } : Jvm.MethodName) prog_24_method_11_code (3 : Nat) (Option.some Jvm.ClassFile.FieldType.int)) ∈ x_tb := x_i1 (i := 205) (by decide +kernel) (by decide +kernel)
theorem k206 : (Jvm.Cond.methodLink "java/util/ArrayList" (123 : Nat) ({ cls := "java/util/ArrayList", name := "elementData", desc := "(I)Ljava/lang/Object;" } : Jvm.MethodName)) ∈ x_tb := x_i1 (i := 206) (by decide +kernel) (by decide +kernel)
theorem k207 : (Jvm.Cond.instanceMethod ({ cls := "java/util/ArrayList", name := "elementData", desc := "(I)Ljava/lang/Object;" } : Jvm.MethodName)) ∈ x_tb := x_i1 (i := 207) (by decide +kernel) (by decide +kernel)
theorem k208 : (Jvm.Cond.selects "java/util/ArrayList" ({ cls := "java/util/ArrayList", name := "elementData", desc := "(I)Ljava/lang/Object;" } : Jvm.MethodName) ({ cls := "java/util/ArrayList", name := "elementData", desc := "(I)Ljava/lang/Object;" } : Jvm.MethodName)) ∈ x_tb := x_i1 (i := 208) (by decide +kernel) (by decide +kernel)
theorem k209 : (Jvm.Cond.code ({ cls := "java/util/ArrayList", name := "elementData", desc := "(I)Ljava/lang/Object;" } : Jvm.MethodName) prog_16_method_18_code (2 : Nat) (Option.some (Jvm.ClassFile.FieldType.object "java/lang/Object"))) ∈ x_tb := x_i1 (i := 209) (by decide +kernel) (by decide +kernel)
theorem k210 : (Jvm.Cond.methodLink "ImageStores" (67 : Nat) ({ cls := "ImageStores$Tree", name := "become", desc := "(LImageStores$Tree;)V" } : Jvm.MethodName)) ∈ x_tb := x_i1 (i := 210) (by decide +kernel) (by decide +kernel)
theorem k211 : (Jvm.Cond.instanceMethod ({ cls := "ImageStores$Tree", name := "become", desc := "(LImageStores$Tree;)V" } : Jvm.MethodName)) ∈ x_tb := x_i1 (i := 211) (by decide +kernel) (by decide +kernel)
theorem k212 : (Jvm.Cond.selects "ImageStores$Tree" ({ cls := "ImageStores$Tree", name := "become", desc := "(LImageStores$Tree;)V" } : Jvm.MethodName) ({ cls := "ImageStores$Tree", name := "become", desc := "(LImageStores$Tree;)V" } : Jvm.MethodName)) ∈ x_tb := x_i1 (i := 212) (by decide +kernel) (by decide +kernel)
theorem k213 : (Jvm.Cond.code ({ cls := "ImageStores$Tree", name := "become", desc := "(LImageStores$Tree;)V" } : Jvm.MethodName) prog_6_method_3_code (2 : Nat) (Option.none : Option Jvm.ClassFile.FieldType)) ∈ x_tb := x_i1 (i := 213) (by decide +kernel) (by decide +kernel)
theorem k214 : (Jvm.Cond.methodLink "ImageStores$Tree" (25 : Nat) ({ cls := "java/lang/System", name := "arraycopy", desc := "(Ljava/lang/Object;ILjava/lang/Object;II)V" } : Jvm.MethodName)) ∈ x_tb := x_i1 (i := 214) (by decide +kernel) (by decide +kernel)
theorem k215 : (Jvm.Cond.methodLink "ImageStores" (71 : Nat) ({ cls := "ImageStores$Tree", name := "change", desc := "(III)Z" } : Jvm.MethodName)) ∈ x_tb := x_i1 (i := 215) (by decide +kernel) (by decide +kernel)
theorem k216 : (Jvm.Cond.instanceMethod ({ cls := "ImageStores$Tree", name := "change", desc := "(III)Z" } : Jvm.MethodName)) ∈ x_tb := x_i1 (i := 216) (by decide +kernel) (by decide +kernel)
theorem k217 : (Jvm.Cond.selects "ImageStores$Tree" ({ cls := "ImageStores$Tree", name := "change", desc := "(III)Z" } : Jvm.MethodName) ({ cls := "ImageStores$Tree", name := "change", desc := "(III)Z" } : Jvm.MethodName)) ∈ x_tb := x_i1 (i := 217) (by decide +kernel) (by decide +kernel)
theorem k218 : (Jvm.Cond.code ({ cls := "ImageStores$Tree", name := "change", desc := "(III)Z" } : Jvm.MethodName) prog_6_method_6_code (4 : Nat) (Option.some Jvm.ClassFile.FieldType.boolean)) ∈ x_tb := x_i1 (i := 218) (by decide +kernel) (by decide +kernel)
theorem k219 : (Jvm.Cond.methodLink "ImageStores$Tree" (31 : Nat) ({ cls := "ImageStores$Path", name := "isLegal", desc := "(I)Z" } : Jvm.MethodName)) ∈ x_tb := x_i1 (i := 219) (by decide +kernel) (by decide +kernel)
theorem k220 : (Jvm.Cond.static ({ cls := "ImageStores$Path", name := "isLegal", desc := "(I)Z" } : Jvm.MethodName)) ∈ x_tb := x_i1 (i := 220) (by decide +kernel) (by decide +kernel)
theorem k221 : (Jvm.Cond.code ({ cls := "ImageStores$Path", name := "isLegal", desc := "(I)Z" } : Jvm.MethodName) prog_4_method_3_code (4 : Nat) (Option.some Jvm.ClassFile.FieldType.boolean)) ∈ x_tb := x_i1 (i := 221) (by decide +kernel) (by decide +kernel)
theorem k222 : (Jvm.Cond.methodLink "ImageStores$Tree" (37 : Nat) ({ cls := "ImageStores$Tree", name := "writeFile", desc := "(II)Z" } : Jvm.MethodName)) ∈ x_tb := x_i1 (i := 222) (by decide +kernel) (by decide +kernel)
theorem k224 : (Jvm.Cond.instanceMethod ({ cls := "ImageStores$Tree", name := "writeFile", desc := "(II)Z" } : Jvm.MethodName)) ∈ x_tb := x_i1 (i := 224) (by decide +kernel) (by decide +kernel)
theorem k225 : (Jvm.Cond.code ({ cls := "ImageStores$Tree", name := "writeFile", desc := "(II)Z" } : Jvm.MethodName) prog_6_method_7_code (3 : Nat) (Option.some Jvm.ClassFile.FieldType.boolean)) ∈ x_tb := x_i1 (i := 225) (by decide +kernel) (by decide +kernel)
theorem k226 : (Jvm.Cond.methodLink "ImageStores$Tree" (50 : Nat) ({ cls := "ImageStores$Tree", name := "liesBelowFile", desc := "(I)Z" } : Jvm.MethodName)) ∈ x_tb := x_i1 (i := 226) (by decide +kernel) (by decide +kernel)
theorem k228 : (Jvm.Cond.instanceMethod ({ cls := "ImageStores$Tree", name := "liesBelowFile", desc := "(I)Z" } : Jvm.MethodName)) ∈ x_tb := x_i1 (i := 228) (by decide +kernel) (by decide +kernel)
theorem k229 : (Jvm.Cond.code ({ cls := "ImageStores$Tree", name := "liesBelowFile", desc := "(I)Z" } : Jvm.MethodName) prog_6_method_14_code (3 : Nat) (Option.some Jvm.ClassFile.FieldType.boolean)) ∈ x_tb := x_i1 (i := 229) (by decide +kernel) (by decide +kernel)
theorem k230 : (Jvm.Cond.methodLink "ImageStores$Tree" (71 : Nat) ({ cls := "ImageStores$Path", name := "parent", desc := "(I)I" } : Jvm.MethodName)) ∈ x_tb := x_i1 (i := 230) (by decide +kernel) (by decide +kernel)
theorem k231 : (Jvm.Cond.static ({ cls := "ImageStores$Path", name := "parent", desc := "(I)I" } : Jvm.MethodName)) ∈ x_tb := x_i1 (i := 231) (by decide +kernel) (by decide +kernel)
theorem k232 : (Jvm.Cond.code ({ cls := "ImageStores$Path", name := "parent", desc := "(I)I" } : Jvm.MethodName) prog_4_method_5_code (1 : Nat) (Option.some Jvm.ClassFile.FieldType.int)) ∈ x_tb := x_i1 (i := 232) (by decide +kernel) (by decide +kernel)
theorem k233 : (Jvm.Cond.methodLink "ImageStores$Path" (9 : Nat) ({ cls := "ImageStores$Path", name := "names", desc := "(I)I" } : Jvm.MethodName)) ∈ x_tb := x_i1 (i := 233) (by decide +kernel) (by decide +kernel)
theorem k234 : (Jvm.Cond.static ({ cls := "ImageStores$Path", name := "names", desc := "(I)I" } : Jvm.MethodName)) ∈ x_tb := x_i1 (i := 234) (by decide +kernel) (by decide +kernel)
theorem k235 : (Jvm.Cond.code ({ cls := "ImageStores$Path", name := "names", desc := "(I)I" } : Jvm.MethodName) prog_4_method_4_code (1 : Nat) (Option.some Jvm.ClassFile.FieldType.int)) ∈ x_tb := x_i1 (i := 235) (by decide +kernel) (by decide +kernel)
theorem k236 : (Jvm.Cond.methodLink "ImageStores$Tree" (57 : Nat) ({ cls := "ImageStores$Tree", name := "isFile", desc := "(I)Z" } : Jvm.MethodName)) ∈ x_tb := x_i1 (i := 236) (by decide +kernel) (by decide +kernel)
theorem k238 : (Jvm.Cond.instanceMethod ({ cls := "ImageStores$Tree", name := "isFile", desc := "(I)Z" } : Jvm.MethodName)) ∈ x_tb := x_i1 (i := 238) (by decide +kernel) (by decide +kernel)
theorem k239 : (Jvm.Cond.code ({ cls := "ImageStores$Tree", name := "isFile", desc := "(I)Z" } : Jvm.MethodName) prog_6_method_13_code (2 : Nat) (Option.some Jvm.ClassFile.FieldType.boolean)) ∈ x_tb := x_i1 (i := 239) (by decide +kernel) (by decide +kernel)
theorem k240 : (Jvm.Cond.methodLink "ImageStores$Tree" (53 : Nat) ({ cls := "ImageStores$Tree", name := "makeAllAbove", desc := "(I)V" } : Jvm.MethodName)) ∈ x_tb := x_i2 (i := 0) (by decide +kernel) (by decide +kernel)
theorem k242 : (Jvm.Cond.instanceMethod ({ cls := "ImageStores$Tree", name := "makeAllAbove", desc := "(I)V" } : Jvm.MethodName)) ∈ x_tb := x_i2 (i := 2) (by decide +kernel) (by decide +kernel)
theorem k243 : (Jvm.Cond.code ({ cls := "ImageStores$Tree", name := "makeAllAbove", desc := "(I)V" } : Jvm.MethodName) prog_6_method_15_code (3 : Nat) (Option.none : Option Jvm.ClassFile.FieldType)) ∈ x_tb := x_i2 (i := 3) (by decide +kernel) (by decide +kernel)
theorem k244 : (Jvm.Cond.methodLink "ImageStores$Tree" (41 : Nat) ({ cls := "ImageStores$Tree", name := "makeDirectory", desc := "(I)Z" } : Jvm.MethodName)) ∈ x_tb := x_i2 (i := 4) (by decide +kernel) (by decide +kernel)
theorem k246 : (Jvm.Cond.instanceMethod ({ cls := "ImageStores$Tree", name := "makeDirectory", desc := "(I)Z" } : Jvm.MethodName)) ∈ x_tb := x_i2 (i := 6) (by decide +kernel) (by decide +kernel)
theorem k247 : (Jvm.Cond.code ({ cls := "ImageStores$Tree", name := "makeDirectory", desc := "(I)Z" } : Jvm.MethodName) prog_6_method_8_code (2 : Nat) (Option.some Jvm.ClassFile.FieldType.boolean)) ∈ x_tb := x_i2 (i := 7) (by decide +kernel) (by decide +kernel)
theorem k248 : (Jvm.Cond.methodLink "ImageStores$Tree" (44 : Nat) ({ cls := "ImageStores$Tree", name := "removeAll", desc := "(I)Z" } : Jvm.MethodName)) ∈ x_tb := x_i2 (i := 8) (by decide +kernel) (by decide +kernel)
theorem k250 : (Jvm.Cond.instanceMethod ({ cls := "ImageStores$Tree", name := "removeAll", desc := "(I)Z" } : Jvm.MethodName)) ∈ x_tb := x_i2 (i := 10) (by decide +kernel) (by decide +kernel)
theorem k251 : (Jvm.Cond.code ({ cls := "ImageStores$Tree", name := "removeAll", desc := "(I)Z" } : Jvm.MethodName) prog_6_method_9_code (4 : Nat) (Option.some Jvm.ClassFile.FieldType.boolean)) ∈ x_tb := x_i2 (i := 11) (by decide +kernel) (by decide +kernel)
theorem k252 : (Jvm.Cond.methodLink "ImageStores$Tree" (60 : Nat) ({ cls := "ImageStores$Path", name := "end", desc := "(I)I" } : Jvm.MethodName)) ∈ x_tb := x_i2 (i := 12) (by decide +kernel) (by decide +kernel)
theorem k253 : (Jvm.Cond.static ({ cls := "ImageStores$Path", name := "end", desc := "(I)I" } : Jvm.MethodName)) ∈ x_tb := x_i2 (i := 13) (by decide +kernel) (by decide +kernel)
theorem k254 : (Jvm.Cond.code ({ cls := "ImageStores$Path", name := "end", desc := "(I)I" } : Jvm.MethodName) prog_4_method_6_code (1 : Nat) (Option.some Jvm.ClassFile.FieldType.int)) ∈ x_tb := x_i2 (i := 14) (by decide +kernel) (by decide +kernel)
theorem k255 : (Jvm.Cond.methodLink "ImageStores$Tree" (47 : Nat) ({ cls := "ImageStores$Tree", name := "copyAll", desc := "(II)Z" } : Jvm.MethodName)) ∈ x_tb := x_i2 (i := 15) (by decide +kernel) (by decide +kernel)
theorem k257 : (Jvm.Cond.instanceMethod ({ cls := "ImageStores$Tree", name := "copyAll", desc := "(II)Z" } : Jvm.MethodName)) ∈ x_tb := x_i2 (i := 17) (by decide +kernel) (by decide +kernel)
theorem k258 : (Jvm.Cond.code ({ cls := "ImageStores$Tree", name := "copyAll", desc := "(II)Z" } : Jvm.MethodName) prog_6_method_10_code (5 : Nat) (Option.some Jvm.ClassFile.FieldType.boolean)) ∈ x_tb := x_i2 (i := 18) (by decide +kernel) (by decide +kernel)
theorem k259 : (Jvm.Cond.methodLink "ImageStores$Tree" (64 : Nat) ({ cls := "ImageStores$Tree", name := "mayCopy", desc := "(II)Z" } : Jvm.MethodName)) ∈ x_tb := x_i2 (i := 19) (by decide +kernel) (by decide +kernel)
theorem k261 : (Jvm.Cond.instanceMethod ({ cls := "ImageStores$Tree", name := "mayCopy", desc := "(II)Z" } : Jvm.MethodName)) ∈ x_tb := x_i2 (i := 21) (by decide +kernel) (by decide +kernel)
theorem k262 : (Jvm.Cond.code ({ cls := "ImageStores$Tree", name := "mayCopy", desc := "(II)Z" } : Jvm.MethodName) prog_6_method_11_code (4 : Nat) (Option.some Jvm.ClassFile.FieldType.boolean)) ∈ x_tb := x_i2 (i := 22) (by decide +kernel) (by decide +kernel)
theorem k263 : (Jvm.Cond.methodLink "ImageStores$Tree" (74 : Nat) ({ cls := "ImageStores$Tree", name := "fitsAt", desc := "(II)Z" } : Jvm.MethodName)) ∈ x_tb := x_i2 (i := 23) (by decide +kernel) (by decide +kernel)
theorem k265 : (Jvm.Cond.instanceMethod ({ cls := "ImageStores$Tree", name := "fitsAt", desc := "(II)Z" } : Jvm.MethodName)) ∈ x_tb := x_i2 (i := 25) (by decide +kernel) (by decide +kernel)
theorem k266 : (Jvm.Cond.code ({ cls := "ImageStores$Tree", name := "fitsAt", desc := "(II)Z" } : Jvm.MethodName) prog_6_method_12_code (5 : Nat) (Option.some Jvm.ClassFile.FieldType.boolean)) ∈ x_tb := x_i2 (i := 26) (by decide +kernel) (by decide +kernel)
theorem k267 : (Jvm.Cond.methodLink "ImageStores$Tree" (77 : Nat) ({ cls := "ImageStores$Path", name := "namesWhenPut", desc := "(III)I" } : Jvm.MethodName)) ∈ x_tb := x_i2 (i := 27) (by decide +kernel) (by decide +kernel)
theorem k268 : (Jvm.Cond.static ({ cls := "ImageStores$Path", name := "namesWhenPut", desc := "(III)I" } : Jvm.MethodName)) ∈ x_tb := x_i2 (i := 28) (by decide +kernel) (by decide +kernel)
theorem k269 : (Jvm.Cond.code ({ cls := "ImageStores$Path", name := "namesWhenPut", desc := "(III)I" } : Jvm.MethodName) prog_4_method_7_code (3 : Nat) (Option.some Jvm.ClassFile.FieldType.int)) ∈ x_tb := x_i2 (i := 29) (by decide +kernel) (by decide +kernel)
theorem k270 : (Jvm.Cond.methodLink "ImageStores$Tree" (67 : Nat) ({ cls := "ImageStores$Path", name := "whenPut", desc := "(III)I" } : Jvm.MethodName)) ∈ x_tb := x_i2 (i := 30) (by decide +kernel) (by decide +kernel)
theorem k271 : (Jvm.Cond.static ({ cls := "ImageStores$Path", name := "whenPut", desc := "(III)I" } : Jvm.MethodName)) ∈ x_tb := x_i2 (i := 31) (by decide +kernel) (by decide +kernel)
theorem k272 : (Jvm.Cond.code ({ cls := "ImageStores$Path", name := "whenPut", desc := "(III)I" } : Jvm.MethodName) prog_4_method_8_code (6 : Nat) (Option.some Jvm.ClassFile.FieldType.int)) ∈ x_tb := x_i2 (i := 32) (by decide +kernel) (by decide +kernel)
theorem k273 : (Jvm.Cond.methodLink "ImageStores" (75 : Nat) ({ cls := "ImageStores", name := "answerDraftOn", desc := "(I)I" } : Jvm.MethodName)) ∈ x_tb := x_i2 (i := 33) (by decide +kernel) (by decide +kernel)
theorem k275 : (Jvm.Cond.instanceMethod ({ cls := "ImageStores", name := "answerDraftOn", desc := "(I)I" } : Jvm.MethodName)) ∈ x_tb := x_i2 (i := 35) (by decide +kernel) (by decide +kernel)
theorem k276 : (Jvm.Cond.code ({ cls := "ImageStores", name := "answerDraftOn", desc := "(I)I" } : Jvm.MethodName) prog_1_method_27_code (3 : Nat) (Option.some Jvm.ClassFile.FieldType.int)) ∈ x_tb := x_i2 (i := 36) (by decide +kernel) (by decide +kernel)
theorem k277 : (Jvm.Cond.methodLink "ImageStores" (165 : Nat) ({ cls := "ImageStores$Tree", name := "sameAs", desc := "(LImageStores$Tree;)Z" } : Jvm.MethodName)) ∈ x_tb := x_i2 (i := 37) (by decide +kernel) (by decide +kernel)
theorem k278 : (Jvm.Cond.instanceMethod ({ cls := "ImageStores$Tree", name := "sameAs", desc := "(LImageStores$Tree;)Z" } : Jvm.MethodName)) ∈ x_tb := x_i2 (i := 38) (by decide +kernel) (by decide +kernel)
theorem k279 : (Jvm.Cond.selects "ImageStores$Tree" ({ cls := "ImageStores$Tree", name := "sameAs", desc := "(LImageStores$Tree;)Z" } : Jvm.MethodName) ({ cls := "ImageStores$Tree", name := "sameAs", desc := "(LImageStores$Tree;)Z" } : Jvm.MethodName)) ∈ x_tb := x_i2 (i := 39) (by decide +kernel) (by decide +kernel)
theorem k280 : (Jvm.Cond.code ({ cls := "ImageStores$Tree", name := "sameAs", desc := "(LImageStores$Tree;)Z" } : Jvm.MethodName) prog_6_method_4_code (3 : Nat) (Option.some Jvm.ClassFile.FieldType.boolean)) ∈ x_tb := x_i2 (i := 40) (by decide +kernel) (by decide +kernel)
theorem k281 : (Jvm.Cond.methodLink "ImageStores" (169 : Nat) ({ cls := "ImageStores", name := "answerHeld", desc := "(I)I" } : Jvm.MethodName)) ∈ x_tb := x_i2 (i := 41) (by decide +kernel) (by decide +kernel)
theorem k283 : (Jvm.Cond.instanceMethod ({ cls := "ImageStores", name := "answerHeld", desc := "(I)I" } : Jvm.MethodName)) ∈ x_tb := x_i2 (i := 43) (by decide +kernel) (by decide +kernel)
theorem k284 : (Jvm.Cond.code ({ cls := "ImageStores", name := "answerHeld", desc := "(I)I" } : Jvm.MethodName) prog_1_method_28_code (2 : Nat) (Option.some Jvm.ClassFile.FieldType.int)) ∈ x_tb := x_i2 (i := 44) (by decide +kernel) (by decide +kernel)
theorem k285 : (Jvm.Cond.methodLink "ImageStores" (104 : Nat) ({ cls := "ImageStores$Store", name := "hold", desc := "(I)V" } : Jvm.MethodName)) ∈ x_tb := x_i2 (i := 45) (by decide +kernel) (by decide +kernel)
theorem k286 : (Jvm.Cond.instanceMethod ({ cls := "ImageStores$Store", name := "hold", desc := "(I)V" } : Jvm.MethodName)) ∈ x_tb := x_i2 (i := 46) (by decide +kernel) (by decide +kernel)
theorem k287 : (Jvm.Cond.selects "ImageStores$Store" ({ cls := "ImageStores$Store", name := "hold", desc := "(I)V" } : Jvm.MethodName) ({ cls := "ImageStores$Store", name := "hold", desc := "(I)V" } : Jvm.MethodName)) ∈ x_tb := x_i2 (i := 47) (by decide +kernel) (by decide +kernel)
theorem k288 : (Jvm.Cond.code ({ cls := "ImageStores$Store", name := "hold", desc := "(I)V" } : Jvm.MethodName) prog_5_method_3_code (2 : Nat) (Option.none : Option Jvm.ClassFile.FieldType)) ∈ x_tb := x_i2 (i := 48) (by decide +kernel) (by decide +kernel)
theorem k289 : (Jvm.Cond.methodLink "ImageStores" (175 : Nat) ({ cls := "ImageStores", name := "newImageOn", desc := "(I)LImageStores$Image;" } : Jvm.MethodName)) ∈ x_tb := x_i2 (i := 49) (by decide +kernel) (by decide +kernel)
theorem k291 : (Jvm.Cond.instanceMethod ({ cls := "ImageStores", name := "newImageOn", desc := "(I)LImageStores$Image;" } : Jvm.MethodName)) ∈ x_tb := x_i2 (i := 51) (by decide +kernel) (by decide +kernel)
theorem k292 : (Jvm.Cond.code ({ cls := "ImageStores", name := "newImageOn", desc := "(I)LImageStores$Image;" } : Jvm.MethodName) prog_1_method_29_code (6 : Nat) (Option.some (Jvm.ClassFile.FieldType.object "ImageStores$Image"))) ∈ x_tb := x_i2 (i := 52) (by decide +kernel) (by decide +kernel)
theorem k293 : (Jvm.Cond.methodLink "ImageStores" (179 : Nat) ({ cls := "java/util/Arrays", name := "copyOf", desc := "([II)[I" } : Jvm.MethodName)) ∈ x_tb := x_i2 (i := 53) (by decide +kernel) (by decide +kernel)
theorem k294 : (Jvm.Cond.static ({ cls := "java/util/Arrays", name := "copyOf", desc := "([II)[I" } : Jvm.MethodName)) ∈ x_tb := x_i2 (i := 54) (by decide +kernel) (by decide +kernel)
theorem k295 : (Jvm.Cond.code ({ cls := "java/util/Arrays", name := "copyOf", desc := "([II)[I" } : Jvm.MethodName) prog_17_method_123_code (3 : Nat) (Option.some (Jvm.ClassFile.FieldType.array Jvm.ClassFile.FieldType.int))) ∈ x_tb := x_i2 (i := 55) (by decide +kernel) (by decide +kernel)
theorem k296 : (Jvm.Cond.methodLink "java/util/Arrays" (316 : Nat) ({ cls := "[I", name := "clone", desc := "()Ljava/lang/Object;" } : Jvm.MethodName)) ∈ x_tb := x_i2 (i := 56) (by decide +kernel) (by decide +kernel)
theorem kn297 : (Jvm.Cond.sameMethod "[I" "java/lang/Object" "clone" "()Ljava/lang/Object;") ∈ lw_tbl := List.mem_append_right _ (List.mem_append_right _ (List.mem_append_left _ (List.mem_of_getElem? (i := 57) (by decide +kernel))))
theorem k298 : (Jvm.Cond.native ({ cls := "java/lang/Object", name := "clone", desc := "()Ljava/lang/Object;" } : Jvm.MethodName)) ∈ x_tb := x_i2 (i := 58) (by decide +kernel) (by decide +kernel)
theorem k299 : (Jvm.Cond.instanceMethod ({ cls := "java/lang/Object", name := "clone", desc := "()Ljava/lang/Object;" } : Jvm.MethodName)) ∈ x_tb := x_i2 (i := 59) (by decide +kernel) (by decide +kernel)
theorem k300 : (Jvm.Cond.selects "[I" ({ cls := "[I", name := "clone", desc := "()Ljava/lang/Object;" } : Jvm.MethodName) ({ cls := "java/lang/Object", name := "clone", desc := "()Ljava/lang/Object;" } : Jvm.MethodName)) ∈ x_tb := x_i2 (i := 60) (by decide +kernel) (by decide +kernel)
theorem kn301 : (Jvm.Cond.castable "[I" "java/lang/Cloneable") ∈ lw_tbl := List.mem_append_right _ (List.mem_append_right _ (List.mem_append_left _ (List.mem_of_getElem? (i := 61) (by decide +kernel))))
theorem k302 : (Jvm.Cond.classLink "java/util/Arrays" (317 : Nat) "[I") ∈ x_tb := x_i2 (i := 62) (by decide +kernel) (by decide +kernel)
theorem k303 : (Jvm.Cond.classLink "ImageStores" (137 : Nat) "ImageStores$Layer") ∈ x_tb := x_i2 (i := 63) (by decide +kernel) (by decide +kernel)
theorem k304 : (Jvm.Cond.instantiable "ImageStores$Layer" (2 : Nat)) ∈ x_tb := x_i2 (i := 64) (by decide +kernel) (by decide +kernel)
theorem k305 : (Jvm.Cond.methodLink "ImageStores" (185 : Nat) ({ cls := "ImageStores$Layer", name := "<init>", desc := "(LImageStores$Tree;LImageStores$Tree;)V" } : Jvm.MethodName)) ∈ x_tb := x_i2 (i := 65) (by decide +kernel) (by decide +kernel)
theorem k306 : (Jvm.Cond.instanceMethod ({ cls := "ImageStores$Layer", name := "<init>", desc := "(LImageStores$Tree;LImageStores$Tree;)V" } : Jvm.MethodName)) ∈ x_tb := x_i2 (i := 66) (by decide +kernel) (by decide +kernel)
theorem k307 : (Jvm.Cond.code ({ cls := "ImageStores$Layer", name := "<init>", desc := "(LImageStores$Tree;LImageStores$Tree;)V" } : Jvm.MethodName) prog_3_method_1_code (8 : Nat) (Option.none : Option Jvm.ClassFile.FieldType)) ∈ x_tb := x_i2 (i := 67) (by decide +kernel) (by decide +kernel)
theorem k308 : (Jvm.Cond.methodLink "ImageStores$Layer" (3 : Nat) ({ cls := "java/lang/Object", name := "<init>", desc := "()V" } : Jvm.MethodName)) ∈ x_tb := x_i2 (i := 68) (by decide +kernel) (by decide +kernel)
theorem k309 : (Jvm.Cond.methodLink "ImageStores$Layer" (9 : Nat) ({ cls := "ImageStores$Layer", name := "changeAt", desc := "(ILImageStores$Tree;LImageStores$Tree;)J" } : Jvm.MethodName)) ∈ x_tb := x_i2 (i := 69) (by decide +kernel) (by decide +kernel)
theorem k310 : (Jvm.Cond.static ({ cls := "ImageStores$Layer", name := "changeAt", desc := "(ILImageStores$Tree;LImageStores$Tree;)J" } : Jvm.MethodName)) ∈ x_tb := x_i2 (i := 70) (by decide +kernel) (by decide +kernel)
theorem k311 : (Jvm.Cond.code ({ cls := "ImageStores$Layer", name := "changeAt", desc := "(ILImageStores$Tree;LImageStores$Tree;)J" } : Jvm.MethodName) prog_3_method_2_code (5 : Nat) (Option.some Jvm.ClassFile.FieldType.long)) ∈ x_tb := x_i2 (i := 71) (by decide +kernel) (by decide +kernel)
theorem k312 : (Jvm.Cond.methodLink "ImageStores$Layer" (25 : Nat) ({ cls := "ImageStores$Tree", name := "at", desc := "(I)J" } : Jvm.MethodName)) ∈ x_tb := x_i2 (i := 72) (by decide +kernel) (by decide +kernel)
theorem k313 : (Jvm.Cond.instanceMethod ({ cls := "ImageStores$Tree", name := "at", desc := "(I)J" } : Jvm.MethodName)) ∈ x_tb := x_i2 (i := 73) (by decide +kernel) (by decide +kernel)
theorem k314 : (Jvm.Cond.selects "ImageStores$Tree" ({ cls := "ImageStores$Tree", name := "at", desc := "(I)J" } : Jvm.MethodName) ({ cls := "ImageStores$Tree", name := "at", desc := "(I)J" } : Jvm.MethodName)) ∈ x_tb := x_i2 (i := 74) (by decide +kernel) (by decide +kernel)
theorem k315 : (Jvm.Cond.code ({ cls := "ImageStores$Tree", name := "at", desc := "(I)J" } : Jvm.MethodName) prog_6_method_2_code (2 : Nat) (Option.some Jvm.ClassFile.FieldType.long)) ∈ x_tb := x_i2 (i := 75) (by decide +kernel) (by decide +kernel)
theorem k316 : (Jvm.Cond.constantLong "ImageStores$Layer" (15 : Nat) (10000000003 : Int64)) ∈ x_tb := x_i2 (i := 76) (by decide +kernel) (by decide +kernel)
theorem k317 : (Jvm.Cond.constantLong "ImageStores$Layer" (31 : Nat) (10000000000 : Int64)) ∈ x_tb := x_i2 (i := 77) (by decide +kernel) (by decide +kernel)
theorem k318 : (Jvm.Cond.methodLink "ImageStores$Layer" (33 : Nat) ({ cls := "ImageStores$Path", name := "parent", desc := "(I)I" } : Jvm.MethodName)) ∈ x_tb := x_i2 (i := 78) (by decide +kernel) (by decide +kernel)
theorem k319 : (Jvm.Cond.constantLong "ImageStores$Layer" (39 : Nat) (10000000001 : Int64)) ∈ x_tb := x_i2 (i := 79) (by decide +kernel) (by decide +kernel)
theorem k320 : (Jvm.Cond.constantLong "ImageStores$Layer" (41 : Nat) (10000000002 : Int64)) ∈ x_tb := x_i2 (i := 80) (by decide +kernel) (by decide +kernel)
theorem k321 : (Jvm.Cond.fieldLink "ImageStores$Layer" (17 : Nat) "ImageStores$Layer" "paths" "[I") ∈ x_tb := x_i2 (i := 81) (by decide +kernel) (by decide +kernel)
theorem kn322 : (Jvm.Cond.fieldLinkNest "ImageStores" (145 : Nat) "ImageStores$Layer" "paths" "[I" "ImageStores") ∈ lw_tbl := List.mem_append_right _ (List.mem_append_right _ (List.mem_append_left _ (List.mem_of_getElem? (i := 82) (by decide +kernel))))
theorem k323 : (Jvm.Cond.fieldLink "ImageStores$Layer" (21 : Nat) "ImageStores$Layer" "marks" "[J") ∈ x_tb := x_i2 (i := 83) (by decide +kernel) (by decide +kernel)
theorem kn324 : (Jvm.Cond.fieldLinkNest "ImageStores" (148 : Nat) "ImageStores$Layer" "marks" "[J" "ImageStores") ∈ lw_tbl := List.mem_append_right _ (List.mem_append_right _ (List.mem_append_left _ (List.mem_of_getElem? (i := 84) (by decide +kernel))))
theorem k325 : (Jvm.Cond.laysFinal "ImageStores$Layer" "ImageStores$Layer" "paths" "[I") ∈ x_tb := x_i2 (i := 85) (by decide +kernel) (by decide +kernel)
theorem k327 : (Jvm.Cond.laysFinal "ImageStores$Layer" "ImageStores$Layer" "marks" "[J") ∈ x_tb := x_i2 (i := 87) (by decide +kernel) (by decide +kernel)
theorem k330 : (Jvm.Cond.methodLink "ImageStores" (188 : Nat) ({ cls := "ImageStores", name := "numberOfLayer", desc := "(LImageStores$Layer;)I" } : Jvm.MethodName)) ∈ x_tb := x_i2 (i := 90) (by decide +kernel) (by decide +kernel)
theorem k332 : (Jvm.Cond.instanceMethod ({ cls := "ImageStores", name := "numberOfLayer", desc := "(LImageStores$Layer;)I" } : Jvm.MethodName)) ∈ x_tb := x_i2 (i := 92) (by decide +kernel) (by decide +kernel)
theorem k333 : (Jvm.Cond.code ({ cls := "ImageStores", name := "numberOfLayer", desc := "(LImageStores$Layer;)I" } : Jvm.MethodName) prog_1_method_30_code (3 : Nat) (Option.some Jvm.ClassFile.FieldType.int)) ∈ x_tb := x_i2 (i := 93) (by decide +kernel) (by decide +kernel)
theorem k334 : (Jvm.Cond.methodLink "ImageStores" (192 : Nat) ({ cls := "ImageStores$Layer", name := "sameAs", desc := "(LImageStores$Layer;)Z" } : Jvm.MethodName)) ∈ x_tb := x_i2 (i := 94) (by decide +kernel) (by decide +kernel)
theorem k335 : (Jvm.Cond.instanceMethod ({ cls := "ImageStores$Layer", name := "sameAs", desc := "(LImageStores$Layer;)Z" } : Jvm.MethodName)) ∈ x_tb := x_i2 (i := 95) (by decide +kernel) (by decide +kernel)
theorem k336 : (Jvm.Cond.selects "ImageStores$Layer" ({ cls := "ImageStores$Layer", name := "sameAs", desc := "(LImageStores$Layer;)Z" } : Jvm.MethodName) ({ cls := "ImageStores$Layer", name := "sameAs", desc := "(LImageStores$Layer;)Z" } : Jvm.MethodName)) ∈ x_tb := x_i2 (i := 96) (by decide +kernel) (by decide +kernel)
theorem k337 : (Jvm.Cond.code ({ cls := "ImageStores$Layer", name := "sameAs", desc := "(LImageStores$Layer;)Z" } : Jvm.MethodName) prog_3_method_4_code (3 : Nat) (Option.some Jvm.ClassFile.FieldType.boolean)) ∈ x_tb := x_i2 (i := 97) (by decide +kernel) (by decide +kernel)
theorem k338 : (Jvm.Cond.methodLink "ImageStoresLaw" (18 : Nat) ({ cls := "ImageStores", name := "flatten", desc := "(I)I" } : Jvm.MethodName)) ∈ x_tb := x_i2 (i := 98) (by decide +kernel) (by decide +kernel)
theorem k339 : (Jvm.Cond.instanceMethod ({ cls := "ImageStores", name := "flatten", desc := "(I)I" } : Jvm.MethodName)) ∈ x_tb := x_i2 (i := 99) (by decide +kernel) (by decide +kernel)
theorem k340 : (Jvm.Cond.selects "ImageStores" ({ cls := "ImageStores", name := "flatten", desc := "(I)I" } : Jvm.MethodName) ({ cls := "ImageStores", name := "flatten", desc := "(I)I" } : Jvm.MethodName)) ∈ x_tb := x_i2 (i := 100) (by decide +kernel) (by decide +kernel)
theorem k341 : (Jvm.Cond.code ({ cls := "ImageStores", name := "flatten", desc := "(I)I" } : Jvm.MethodName) prog_1_method_3_code (2 : Nat) (Option.some Jvm.ClassFile.FieldType.int)) ∈ x_tb := x_i2 (i := 101) (by decide +kernel) (by decide +kernel)
theorem k342 : (Jvm.Cond.methodLink "ImageStoresLaw" (23 : Nat) ({ cls := "ImageStores", name := "tag", desc := "(III)I" } : Jvm.MethodName)) ∈ x_tb := x_i2 (i := 102) (by decide +kernel) (by decide +kernel)
theorem k343 : (Jvm.Cond.instanceMethod ({ cls := "ImageStores", name := "tag", desc := "(III)I" } : Jvm.MethodName)) ∈ x_tb := x_i2 (i := 103) (by decide +kernel) (by decide +kernel)
theorem k344 : (Jvm.Cond.selects "ImageStores" ({ cls := "ImageStores", name := "tag", desc := "(III)I" } : Jvm.MethodName) ({ cls := "ImageStores", name := "tag", desc := "(III)I" } : Jvm.MethodName)) ∈ x_tb := x_i2 (i := 104) (by decide +kernel) (by decide +kernel)
theorem k345 : (Jvm.Cond.code ({ cls := "ImageStores", name := "tag", desc := "(III)I" } : Jvm.MethodName) prog_1_method_4_code (5 : Nat) (Option.some Jvm.ClassFile.FieldType.int)) ∈ x_tb := x_i2 (i := 105) (by decide +kernel) (by decide +kernel)
theorem k346 : (Jvm.Cond.methodLink "ImageStores" (79 : Nat) ({ cls := "ImageStores", name := "isStore", desc := "(I)Z" } : Jvm.MethodName)) ∈ x_tb := x_i2 (i := 106) (by decide +kernel) (by decide +kernel)
theorem k347 : (Jvm.Cond.static ({ cls := "ImageStores", name := "isStore", desc := "(I)Z" } : Jvm.MethodName)) ∈ x_tb := x_i2 (i := 107) (by decide +kernel) (by decide +kernel)
theorem k348 : (Jvm.Cond.code ({ cls := "ImageStores", name := "isStore", desc := "(I)Z" } : Jvm.MethodName) prog_1_method_20_code (1 : Nat) (Option.some Jvm.ClassFile.FieldType.boolean)) ∈ x_tb := x_i2 (i := 108) (by decide +kernel) (by decide +kernel)
theorem k349 : (Jvm.Cond.methodLink "ImageStores" (82 : Nat) ({ cls := "ImageStores", name := "isTag", desc := "(I)Z" } : Jvm.MethodName)) ∈ x_tb := x_i2 (i := 109) (by decide +kernel) (by decide +kernel)
theorem k350 : (Jvm.Cond.static ({ cls := "ImageStores", name := "isTag", desc := "(I)Z" } : Jvm.MethodName)) ∈ x_tb := x_i2 (i := 110) (by decide +kernel) (by decide +kernel)
theorem k351 : (Jvm.Cond.code ({ cls := "ImageStores", name := "isTag", desc := "(I)Z" } : Jvm.MethodName) prog_1_method_21_code (1 : Nat) (Option.some Jvm.ClassFile.FieldType.boolean)) ∈ x_tb := x_i2 (i := 111) (by decide +kernel) (by decide +kernel)
theorem k352 : (Jvm.Cond.methodLink "ImageStores" (85 : Nat) ({ cls := "ImageStores", name := "storeOf", desc := "(I)LImageStores$Store;" } : Jvm.MethodName)) ∈ x_tb := x_i2 (i := 112) (by decide +kernel) (by decide +kernel)
theorem k354 : (Jvm.Cond.instanceMethod ({ cls := "ImageStores", name := "storeOf", desc := "(I)LImageStores$Store;" } : Jvm.MethodName)) ∈ x_tb := x_i2 (i := 114) (by decide +kernel) (by decide +kernel)
theorem k355 : (Jvm.Cond.code ({ cls := "ImageStores", name := "storeOf", desc := "(I)LImageStores$Store;" } : Jvm.MethodName) prog_1_method_22_code (2 : Nat) (Option.some (Jvm.ClassFile.FieldType.object "ImageStores$Store"))) ∈ x_tb := x_i2 (i := 115) (by decide +kernel) (by decide +kernel)
theorem k356 : (Jvm.Cond.methodLink "ImageStores" (89 : Nat) ({ cls := "ImageStores$Store", name := "nameOf", desc := "(I)I" } : Jvm.MethodName)) ∈ x_tb := x_i2 (i := 116) (by decide +kernel) (by decide +kernel)
theorem k357 : (Jvm.Cond.instanceMethod ({ cls := "ImageStores$Store", name := "nameOf", desc := "(I)I" } : Jvm.MethodName)) ∈ x_tb := x_i2 (i := 117) (by decide +kernel) (by decide +kernel)
theorem k358 : (Jvm.Cond.selects "ImageStores$Store" ({ cls := "ImageStores$Store", name := "nameOf", desc := "(I)I" } : Jvm.MethodName) ({ cls := "ImageStores$Store", name := "nameOf", desc := "(I)I" } : Jvm.MethodName)) ∈ x_tb := x_i2 (i := 118) (by decide +kernel) (by decide +kernel)
theorem k359 : (Jvm.Cond.code ({ cls := "ImageStores$Store", name := "nameOf", desc := "(I)I" } : Jvm.MethodName) prog_5_method_4_code (2 : Nat) (Option.some Jvm.ClassFile.FieldType.int)) ∈ x_tb := x_i2 (i := 119) (by decide +kernel) (by decide +kernel)
theorem k360 : (Jvm.Cond.methodLink "ImageStores" (92 : Nat) ({ cls := "ImageStores$Store", name := "giveName", desc := "(II)V" } : Jvm.MethodName)) ∈ x_tb := x_i2 (i := 120) (by decide +kernel) (by decide +kernel)
theorem k361 : (Jvm.Cond.instanceMethod ({ cls := "ImageStores$Store", name := "giveName", desc := "(II)V" } : Jvm.MethodName)) ∈ x_tb := x_i2 (i := 121) (by decide +kernel) (by decide +kernel)
theorem k362 : (Jvm.Cond.selects "ImageStores$Store" ({ cls := "ImageStores$Store", name := "giveName", desc := "(II)V" } : Jvm.MethodName) ({ cls := "ImageStores$Store", name := "giveName", desc := "(II)V" } : Jvm.MethodName)) ∈ x_tb := x_i2 (i := 122) (by decide +kernel) (by decide +kernel)
theorem k363 : (Jvm.Cond.code ({ cls := "ImageStores$Store", name := "giveName", desc := "(II)V" } : Jvm.MethodName) prog_5_method_5_code (3 : Nat) (Option.none : Option Jvm.ClassFile.FieldType)) ∈ x_tb := x_i2 (i := 123) (by decide +kernel) (by decide +kernel)
theorem k364 : (Jvm.Cond.methodLink "ImageStoresLaw" (28 : Nat) ({ cls := "ImageStores", name := "untag", desc := "(II)I" } : Jvm.MethodName)) ∈ x_tb := x_i2 (i := 124) (by decide +kernel) (by decide +kernel)
theorem k365 : (Jvm.Cond.instanceMethod ({ cls := "ImageStores", name := "untag", desc := "(II)I" } : Jvm.MethodName)) ∈ x_tb := x_i2 (i := 125) (by decide +kernel) (by decide +kernel)
theorem k366 : (Jvm.Cond.selects "ImageStores" ({ cls := "ImageStores", name := "untag", desc := "(II)I" } : Jvm.MethodName) ({ cls := "ImageStores", name := "untag", desc := "(II)I" } : Jvm.MethodName)) ∈ x_tb := x_i2 (i := 126) (by decide +kernel) (by decide +kernel)
theorem k367 : (Jvm.Cond.code ({ cls := "ImageStores", name := "untag", desc := "(II)I" } : Jvm.MethodName) prog_1_method_5_code (4 : Nat) (Option.some Jvm.ClassFile.FieldType.int)) ∈ x_tb := x_i2 (i := 127) (by decide +kernel) (by decide +kernel)
theorem k368 : (Jvm.Cond.methodLink "ImageStores" (96 : Nat) ({ cls := "ImageStores", name := "namesImage", desc := "(II)Z" } : Jvm.MethodName)) ∈ x_tb := x_i2 (i := 128) (by decide +kernel) (by decide +kernel)
theorem k370 : (Jvm.Cond.instanceMethod ({ cls := "ImageStores", name := "namesImage", desc := "(II)Z" } : Jvm.MethodName)) ∈ x_tb := x_i2 (i := 130) (by decide +kernel) (by decide +kernel)
theorem k371 : (Jvm.Cond.code ({ cls := "ImageStores", name := "namesImage", desc := "(II)Z" } : Jvm.MethodName) prog_1_method_23_code (3 : Nat) (Option.some Jvm.ClassFile.FieldType.boolean)) ∈ x_tb := x_i2 (i := 131) (by decide +kernel) (by decide +kernel)
theorem k372 : (Jvm.Cond.methodLink "ImageStoresLaw" (33 : Nat) ({ cls := "ImageStores", name := "send", desc := "(II)I" } : Jvm.MethodName)) ∈ x_tb := x_i2 (i := 132) (by decide +kernel) (by decide +kernel)
theorem k373 : (Jvm.Cond.instanceMethod ({ cls := "ImageStores", name := "send", desc := "(II)I" } : Jvm.MethodName)) ∈ x_tb := x_i2 (i := 133) (by decide +kernel) (by decide +kernel)
theorem k374 : (Jvm.Cond.selects "ImageStores" ({ cls := "ImageStores", name := "send", desc := "(II)I" } : Jvm.MethodName) ({ cls := "ImageStores", name := "send", desc := "(II)I" } : Jvm.MethodName)) ∈ x_tb := x_i2 (i := 134) (by decide +kernel) (by decide +kernel)
theorem k375 : (Jvm.Cond.code ({ cls := "ImageStores", name := "send", desc := "(II)I" } : Jvm.MethodName) prog_1_method_6_code (6 : Nat) (Option.some Jvm.ClassFile.FieldType.int)) ∈ x_tb := x_i2 (i := 135) (by decide +kernel) (by decide +kernel)
theorem k376 : (Jvm.Cond.methodLink "ImageStores" (100 : Nat) ({ cls := "ImageStores", name := "layersIn", desc := "(LImageStores$Store;)I" } : Jvm.MethodName)) ∈ x_tb := x_i2 (i := 136) (by decide +kernel) (by decide +kernel)
theorem k378 : (Jvm.Cond.instanceMethod ({ cls := "ImageStores", name := "layersIn", desc := "(LImageStores$Store;)I" } : Jvm.MethodName)) ∈ x_tb := x_i2 (i := 138) (by decide +kernel) (by decide +kernel)
theorem k379 : (Jvm.Cond.code ({ cls := "ImageStores", name := "layersIn", desc := "(LImageStores$Store;)I" } : Jvm.MethodName) prog_1_method_31_code (4 : Nat) (Option.some Jvm.ClassFile.FieldType.int)) ∈ x_tb := x_i2 (i := 139) (by decide +kernel) (by decide +kernel)
theorem k380 : (Jvm.Cond.methodLink "ImageStores" (195 : Nat) ({ cls := "ImageStores", name := "seeLayersOf", desc := "(LImageStores$Store;)V" } : Jvm.MethodName)) ∈ x_tb := x_i2 (i := 140) (by decide +kernel) (by decide +kernel)
theorem k382 : (Jvm.Cond.instanceMethod ({ cls := "ImageStores", name := "seeLayersOf", desc := "(LImageStores$Store;)V" } : Jvm.MethodName)) ∈ x_tb := x_i2 (i := 142) (by decide +kernel) (by decide +kernel)
theorem k383 : (Jvm.Cond.code ({ cls := "ImageStores", name := "seeLayersOf", desc := "(LImageStores$Store;)V" } : Jvm.MethodName) prog_1_method_33_code (7 : Nat) (Option.none : Option Jvm.ClassFile.FieldType)) ∈ x_tb := x_i2 (i := 143) (by decide +kernel) (by decide +kernel)
theorem k384 : (Jvm.Cond.methodLink "ImageStoresLaw" (37 : Nat) ({ cls := "ImageStores", name := "collect", desc := "(I)I" } : Jvm.MethodName)) ∈ x_tb := x_i2 (i := 144) (by decide +kernel) (by decide +kernel)
theorem k385 : (Jvm.Cond.instanceMethod ({ cls := "ImageStores", name := "collect", desc := "(I)I" } : Jvm.MethodName)) ∈ x_tb := x_i2 (i := 145) (by decide +kernel) (by decide +kernel)
theorem k386 : (Jvm.Cond.selects "ImageStores" ({ cls := "ImageStores", name := "collect", desc := "(I)I" } : Jvm.MethodName) ({ cls := "ImageStores", name := "collect", desc := "(I)I" } : Jvm.MethodName)) ∈ x_tb := x_i2 (i := 146) (by decide +kernel) (by decide +kernel)
theorem k387 : (Jvm.Cond.code ({ cls := "ImageStores", name := "collect", desc := "(I)I" } : Jvm.MethodName) prog_1_method_7_code (3 : Nat) (Option.some Jvm.ClassFile.FieldType.int)) ∈ x_tb := x_i2 (i := 147) (by decide +kernel) (by decide +kernel)
theorem k388 : (Jvm.Cond.methodLink "ImageStores" (108 : Nat) ({ cls := "ImageStores$Store", name := "holdOnlyNamed", desc := "()V" } : Jvm.MethodName)) ∈ x_tb := x_i2 (i := 148) (by decide +kernel) (by decide +kernel)
theorem k389 : (Jvm.Cond.instanceMethod ({ cls := "ImageStores$Store", name := "holdOnlyNamed", desc := "()V" } : Jvm.MethodName)) ∈ x_tb := x_i2 (i := 149) (by decide +kernel) (by decide +kernel)
theorem k390 : (Jvm.Cond.selects "ImageStores$Store" ({ cls := "ImageStores$Store", name := "holdOnlyNamed", desc := "()V" } : Jvm.MethodName) ({ cls := "ImageStores$Store", name := "holdOnlyNamed", desc := "()V" } : Jvm.MethodName)) ∈ x_tb := x_i2 (i := 150) (by decide +kernel) (by decide +kernel)
theorem k391 : (Jvm.Cond.code ({ cls := "ImageStores$Store", name := "holdOnlyNamed", desc := "()V" } : Jvm.MethodName) prog_5_method_6_code (5 : Nat) (Option.none : Option Jvm.ClassFile.FieldType)) ∈ x_tb := x_i2 (i := 151) (by decide +kernel) (by decide +kernel)
theorem k392 : (Jvm.Cond.methodLink "ImageStores$Store" (25 : Nat) ({ cls := "ImageStores$Store", name := "hold", desc := "(I)V" } : Jvm.MethodName)) ∈ x_tb := x_i2 (i := 152) (by decide +kernel) (by decide +kernel)
theorem k393 : (Jvm.Cond.methodLink "ImageStoresLaw" (41 : Nat) ({ cls := "ImageStores", name := "named", desc := "(II)I" } : Jvm.MethodName)) ∈ x_tb := x_i2 (i := 153) (by decide +kernel) (by decide +kernel)
theorem k394 : (Jvm.Cond.instanceMethod ({ cls := "ImageStores", name := "named", desc := "(II)I" } : Jvm.MethodName)) ∈ x_tb := x_i2 (i := 154) (by decide +kernel) (by decide +kernel)
theorem k395 : (Jvm.Cond.selects "ImageStores" ({ cls := "ImageStores", name := "named", desc := "(II)I" } : Jvm.MethodName) ({ cls := "ImageStores", name := "named", desc := "(II)I" } : Jvm.MethodName)) ∈ x_tb := x_i2 (i := 155) (by decide +kernel) (by decide +kernel)
theorem k396 : (Jvm.Cond.code ({ cls := "ImageStores", name := "named", desc := "(II)I" } : Jvm.MethodName) prog_1_method_8_code (3 : Nat) (Option.some Jvm.ClassFile.FieldType.int)) ∈ x_tb := x_i2 (i := 156) (by decide +kernel) (by decide +kernel)
theorem k397 : (Jvm.Cond.methodLink "ImageStoresLaw" (45 : Nat) ({ cls := "ImageStores", name := "held", desc := "(II)Z" } : Jvm.MethodName)) ∈ x_tb := x_i2 (i := 157) (by decide +kernel) (by decide +kernel)
theorem k398 : (Jvm.Cond.instanceMethod ({ cls := "ImageStores", name := "held", desc := "(II)Z" } : Jvm.MethodName)) ∈ x_tb := x_i2 (i := 158) (by decide +kernel) (by decide +kernel)
theorem k399 : (Jvm.Cond.selects "ImageStores" ({ cls := "ImageStores", name := "held", desc := "(II)Z" } : Jvm.MethodName) ({ cls := "ImageStores", name := "held", desc := "(II)Z" } : Jvm.MethodName)) ∈ x_tb := x_i2 (i := 159) (by decide +kernel) (by decide +kernel)
theorem k400 : (Jvm.Cond.code ({ cls := "ImageStores", name := "held", desc := "(II)Z" } : Jvm.MethodName) prog_1_method_9_code (3 : Nat) (Option.some Jvm.ClassFile.FieldType.boolean)) ∈ x_tb := x_i2 (i := 160) (by decide +kernel) (by decide +kernel)
theorem k401 : (Jvm.Cond.methodLink "ImageStoresLaw" (50 : Nat) ({ cls := "ImageStores", name := "look", desc := "(II)J" } : Jvm.MethodName)) ∈ x_tb := x_i2 (i := 161) (by decide +kernel) (by decide +kernel)
theorem k402 : (Jvm.Cond.instanceMethod ({ cls := "ImageStores", name := "look", desc := "(II)J" } : Jvm.MethodName)) ∈ x_tb := x_i2 (i := 162) (by decide +kernel) (by decide +kernel)
theorem k403 : (Jvm.Cond.selects "ImageStores" ({ cls := "ImageStores", name := "look", desc := "(II)J" } : Jvm.MethodName) ({ cls := "ImageStores", name := "look", desc := "(II)J" } : Jvm.MethodName)) ∈ x_tb := x_i2 (i := 163) (by decide +kernel) (by decide +kernel)
theorem k404 : (Jvm.Cond.code ({ cls := "ImageStores", name := "look", desc := "(II)J" } : Jvm.MethodName) prog_1_method_10_code (3 : Nat) (Option.some Jvm.ClassFile.FieldType.long)) ∈ x_tb := x_i2 (i := 164) (by decide +kernel) (by decide +kernel)
theorem k405 : (Jvm.Cond.methodLink "ImageStores" (111 : Nat) ({ cls := "ImageStores$Path", name := "inRange", desc := "(I)Z" } : Jvm.MethodName)) ∈ x_tb := x_i2 (i := 165) (by decide +kernel) (by decide +kernel)
theorem k406 : (Jvm.Cond.static ({ cls := "ImageStores$Path", name := "inRange", desc := "(I)Z" } : Jvm.MethodName)) ∈ x_tb := x_i2 (i := 166) (by decide +kernel) (by decide +kernel)
theorem k407 : (Jvm.Cond.code ({ cls := "ImageStores$Path", name := "inRange", desc := "(I)Z" } : Jvm.MethodName) prog_4_method_2_code (1 : Nat) (Option.some Jvm.ClassFile.FieldType.boolean)) ∈ x_tb := x_i2 (i := 167) (by decide +kernel) (by decide +kernel)
theorem k408 : (Jvm.Cond.constantLong "ImageStores" (116 : Nat) (10000000003 : Int64)) ∈ x_tb := x_i2 (i := 168) (by decide +kernel) (by decide +kernel)
theorem k409 : (Jvm.Cond.methodLink "ImageStores" (118 : Nat) ({ cls := "ImageStores$Tree", name := "at", desc := "(I)J" } : Jvm.MethodName)) ∈ x_tb := x_i2 (i := 169) (by decide +kernel) (by decide +kernel)
theorem k410 : (Jvm.Cond.methodLink "ImageStoresLaw" (55 : Nat) ({ cls := "ImageStores", name := "next", desc := "(II)I" } : Jvm.MethodName)) ∈ x_tb := x_i2 (i := 170) (by decide +kernel) (by decide +kernel)
theorem k411 : (Jvm.Cond.instanceMethod ({ cls := "ImageStores", name := "next", desc := "(II)I" } : Jvm.MethodName)) ∈ x_tb := x_i2 (i := 171) (by decide +kernel) (by decide +kernel)
theorem k412 : (Jvm.Cond.selects "ImageStores" ({ cls := "ImageStores", name := "next", desc := "(II)I" } : Jvm.MethodName) ({ cls := "ImageStores", name := "next", desc := "(II)I" } : Jvm.MethodName)) ∈ x_tb := x_i2 (i := 172) (by decide +kernel) (by decide +kernel)
theorem k413 : (Jvm.Cond.code ({ cls := "ImageStores", name := "next", desc := "(II)I" } : Jvm.MethodName) prog_1_method_11_code (3 : Nat) (Option.some Jvm.ClassFile.FieldType.int)) ∈ x_tb := x_i2 (i := 173) (by decide +kernel) (by decide +kernel)
theorem k414 : (Jvm.Cond.methodLink "ImageStores" (122 : Nat) ({ cls := "ImageStores$Tree", name := "presentAfter", desc := "(I)I" } : Jvm.MethodName)) ∈ x_tb := x_i2 (i := 174) (by decide +kernel) (by decide +kernel)
theorem k415 : (Jvm.Cond.instanceMethod ({ cls := "ImageStores$Tree", name := "presentAfter", desc := "(I)I" } : Jvm.MethodName)) ∈ x_tb := x_i2 (i := 175) (by decide +kernel) (by decide +kernel)
theorem k416 : (Jvm.Cond.selects "ImageStores$Tree" ({ cls := "ImageStores$Tree", name := "presentAfter", desc := "(I)I" } : Jvm.MethodName) ({ cls := "ImageStores$Tree", name := "presentAfter", desc := "(I)I" } : Jvm.MethodName)) ∈ x_tb := x_i2 (i := 176) (by decide +kernel) (by decide +kernel)
theorem k417 : (Jvm.Cond.code ({ cls := "ImageStores$Tree", name := "presentAfter", desc := "(I)I" } : Jvm.MethodName) prog_6_method_5_code (3 : Nat) (Option.some Jvm.ClassFile.FieldType.int)) ∈ x_tb := x_i2 (i := 177) (by decide +kernel) (by decide +kernel)
theorem k418 : (Jvm.Cond.methodLink "ImageStoresLaw" (59 : Nat) ({ cls := "ImageStores", name := "layers", desc := "(I)I" } : Jvm.MethodName)) ∈ x_tb := x_i2 (i := 178) (by decide +kernel) (by decide +kernel)
theorem k419 : (Jvm.Cond.instanceMethod ({ cls := "ImageStores", name := "layers", desc := "(I)I" } : Jvm.MethodName)) ∈ x_tb := x_i2 (i := 179) (by decide +kernel) (by decide +kernel)
theorem k420 : (Jvm.Cond.selects "ImageStores" ({ cls := "ImageStores", name := "layers", desc := "(I)I" } : Jvm.MethodName) ({ cls := "ImageStores", name := "layers", desc := "(I)I" } : Jvm.MethodName)) ∈ x_tb := x_i2 (i := 180) (by decide +kernel) (by decide +kernel)
theorem k421 : (Jvm.Cond.code ({ cls := "ImageStores", name := "layers", desc := "(I)I" } : Jvm.MethodName) prog_1_method_12_code (2 : Nat) (Option.some Jvm.ClassFile.FieldType.int)) ∈ x_tb := x_i2 (i := 181) (by decide +kernel) (by decide +kernel)
theorem k422 : (Jvm.Cond.methodLink "ImageStoresLaw" (63 : Nat) ({ cls := "ImageStores", name := "entries", desc := "(II)I" } : Jvm.MethodName)) ∈ x_tb := x_i2 (i := 182) (by decide +kernel) (by decide +kernel)
theorem k423 : (Jvm.Cond.instanceMethod ({ cls := "ImageStores", name := "entries", desc := "(II)I" } : Jvm.MethodName)) ∈ x_tb := x_i2 (i := 183) (by decide +kernel) (by decide +kernel)
theorem k424 : (Jvm.Cond.selects "ImageStores" ({ cls := "ImageStores", name := "entries", desc := "(II)I" } : Jvm.MethodName) ({ cls := "ImageStores", name := "entries", desc := "(II)I" } : Jvm.MethodName)) ∈ x_tb := x_i2 (i := 184) (by decide +kernel) (by decide +kernel)
theorem k425 : (Jvm.Cond.code ({ cls := "ImageStores", name := "entries", desc := "(II)I" } : Jvm.MethodName) prog_1_method_13_code (3 : Nat) (Option.some Jvm.ClassFile.FieldType.int)) ∈ x_tb := x_i2 (i := 185) (by decide +kernel) (by decide +kernel)
theorem k426 : (Jvm.Cond.methodLink "ImageStores" (129 : Nat) ({ cls := "ImageStores", name := "hasLayer", desc := "(II)Z" } : Jvm.MethodName)) ∈ x_tb := x_i2 (i := 186) (by decide +kernel) (by decide +kernel)
theorem k428 : (Jvm.Cond.instanceMethod ({ cls := "ImageStores", name := "hasLayer", desc := "(II)Z" } : Jvm.MethodName)) ∈ x_tb := x_i2 (i := 188) (by decide +kernel) (by decide +kernel)
theorem k429 : (Jvm.Cond.code ({ cls := "ImageStores", name := "hasLayer", desc := "(II)Z" } : Jvm.MethodName) prog_1_method_24_code (3 : Nat) (Option.some Jvm.ClassFile.FieldType.boolean)) ∈ x_tb := x_i2 (i := 189) (by decide +kernel) (by decide +kernel)
theorem k430 : (Jvm.Cond.methodLink "ImageStores" (132 : Nat) ({ cls := "ImageStores", name := "layerOf", desc := "(II)LImageStores$Layer;" } : Jvm.MethodName)) ∈ x_tb := x_i2 (i := 190) (by decide +kernel) (by decide +kernel)
theorem k432 : (Jvm.Cond.instanceMethod ({ cls := "ImageStores", name := "layerOf", desc := "(II)LImageStores$Layer;" } : Jvm.MethodName)) ∈ x_tb := x_i2 (i := 192) (by decide +kernel) (by decide +kernel)
theorem k433 : (Jvm.Cond.code ({ cls := "ImageStores", name := "layerOf", desc := "(II)LImageStores$Layer;" } : Jvm.MethodName) prog_1_method_26_code (3 : Nat) (Option.some (Jvm.ClassFile.FieldType.object "ImageStores$Layer"))) ∈ x_tb := x_i2 (i := 193) (by decide +kernel) (by decide +kernel)
theorem k434 : (Jvm.Cond.methodLink "ImageStores" (136 : Nat) ({ cls := "ImageStores$Layer", name := "size", desc := "()I" } : Jvm.MethodName)) ∈ x_tb := x_i2 (i := 194) (by decide +kernel) (by decide +kernel)
theorem k435 : (Jvm.Cond.instanceMethod ({ cls := "ImageStores$Layer", name := "size", desc := "()I" } : Jvm.MethodName)) ∈ x_tb := x_i2 (i := 195) (by decide +kernel) (by decide +kernel)
theorem k436 : (Jvm.Cond.selects "ImageStores$Layer" ({ cls := "ImageStores$Layer", name := "size", desc := "()I" } : Jvm.MethodName) ({ cls := "ImageStores$Layer", name := "size", desc := "()I" } : Jvm.MethodName)) ∈ x_tb := x_i2 (i := 196) (by decide +kernel) (by decide +kernel)
theorem k437 : (Jvm.Cond.code ({ cls := "ImageStores$Layer", name := "size", desc := "()I" } : Jvm.MethodName) prog_3_method_3_code (1 : Nat) (Option.some Jvm.ClassFile.FieldType.int)) ∈ x_tb := x_i2 (i := 197) (by decide +kernel) (by decide +kernel)
theorem k438 : (Jvm.Cond.methodLink "ImageStoresLaw" (67 : Nat) ({ cls := "ImageStores", name := "entryPath", desc := "(III)I" } : Jvm.MethodName)) ∈ x_tb := x_i2 (i := 198) (by decide +kernel) (by decide +kernel)
theorem k439 : (Jvm.Cond.instanceMethod ({ cls := "ImageStores", name := "entryPath", desc := "(III)I" } : Jvm.MethodName)) ∈ x_tb := x_i2 (i := 199) (by decide +kernel) (by decide +kernel)
theorem k440 : (Jvm.Cond.selects "ImageStores" ({ cls := "ImageStores", name := "entryPath", desc := "(III)I" } : Jvm.MethodName) ({ cls := "ImageStores", name := "entryPath", desc := "(III)I" } : Jvm.MethodName)) ∈ x_tb := x_i2 (i := 200) (by decide +kernel) (by decide +kernel)
theorem k441 : (Jvm.Cond.code ({ cls := "ImageStores", name := "entryPath", desc := "(III)I" } : Jvm.MethodName) prog_1_method_14_code (4 : Nat) (Option.some Jvm.ClassFile.FieldType.int)) ∈ x_tb := x_i2 (i := 201) (by decide +kernel) (by decide +kernel)
theorem k442 : (Jvm.Cond.methodLink "ImageStores" (142 : Nat) ({ cls := "ImageStores", name := "hasEntry", desc := "(III)Z" } : Jvm.MethodName)) ∈ x_tb := x_i2 (i := 202) (by decide +kernel) (by decide +kernel)
theorem k444 : (Jvm.Cond.instanceMethod ({ cls := "ImageStores", name := "hasEntry", desc := "(III)Z" } : Jvm.MethodName)) ∈ x_tb := x_i2 (i := 204) (by decide +kernel) (by decide +kernel)
theorem k445 : (Jvm.Cond.code ({ cls := "ImageStores", name := "hasEntry", desc := "(III)Z" } : Jvm.MethodName) prog_1_method_25_code (4 : Nat) (Option.some Jvm.ClassFile.FieldType.boolean)) ∈ x_tb := x_i2 (i := 205) (by decide +kernel) (by decide +kernel)
theorem k446 : (Jvm.Cond.methodLink "ImageStoresLaw" (71 : Nat) ({ cls := "ImageStores", name := "entryMark", desc := "(III)J" } : Jvm.MethodName)) ∈ x_tb := x_i2 (i := 206) (by decide +kernel) (by decide +kernel)
theorem k447 : (Jvm.Cond.instanceMethod ({ cls := "ImageStores", name := "entryMark", desc := "(III)J" } : Jvm.MethodName)) ∈ x_tb := x_i2 (i := 207) (by decide +kernel) (by decide +kernel)
theorem k448 : (Jvm.Cond.selects "ImageStores" ({ cls := "ImageStores", name := "entryMark", desc := "(III)J" } : Jvm.MethodName) ({ cls := "ImageStores", name := "entryMark", desc := "(III)J" } : Jvm.MethodName)) ∈ x_tb := x_i2 (i := 208) (by decide +kernel) (by decide +kernel)
theorem k449 : (Jvm.Cond.code ({ cls := "ImageStores", name := "entryMark", desc := "(III)J" } : Jvm.MethodName) prog_1_method_15_code (4 : Nat) (Option.some Jvm.ClassFile.FieldType.long)) ∈ x_tb := x_i2 (i := 209) (by decide +kernel) (by decide +kernel)
theorem k450 : (Jvm.Cond.methodLink "ImageStoresLaw" (76 : Nat) ({ cls := "ImageStores", name := "common", desc := "(II)I" } : Jvm.MethodName)) ∈ x_tb := x_i2 (i := 210) (by decide +kernel) (by decide +kernel)
theorem k451 : (Jvm.Cond.instanceMethod ({ cls := "ImageStores", name := "common", desc := "(II)I" } : Jvm.MethodName)) ∈ x_tb := x_i2 (i := 211) (by decide +kernel) (by decide +kernel)
theorem k452 : (Jvm.Cond.selects "ImageStores" ({ cls := "ImageStores", name := "common", desc := "(II)I" } : Jvm.MethodName) ({ cls := "ImageStores", name := "common", desc := "(II)I" } : Jvm.MethodName)) ∈ x_tb := x_i2 (i := 212) (by decide +kernel) (by decide +kernel)
theorem k453 : (Jvm.Cond.code ({ cls := "ImageStores", name := "common", desc := "(II)I" } : Jvm.MethodName) prog_1_method_16_code (7 : Nat) (Option.some Jvm.ClassFile.FieldType.int)) ∈ x_tb := x_i2 (i := 213) (by decide +kernel) (by decide +kernel)
theorem k454 : (Jvm.Cond.methodLink "ImageStores" (152 : Nat) ({ cls := "java/lang/Math", name := "min", desc := "(II)I" } : Jvm.MethodName)) ∈ x_tb := x_i2 (i := 214) (by decide +kernel) (by decide +kernel)
theorem k455 : (Jvm.Cond.methodLink "ImageStoresLaw" (80 : Nat) ({ cls := "ImageStores", name := "shared", desc := "(II)I" } : Jvm.MethodName)) ∈ x_tb := x_i2 (i := 215) (by decide +kernel) (by decide +kernel)
theorem k456 : (Jvm.Cond.instanceMethod ({ cls := "ImageStores", name := "shared", desc := "(II)I" } : Jvm.MethodName)) ∈ x_tb := x_i2 (i := 216) (by decide +kernel) (by decide +kernel)
theorem k457 : (Jvm.Cond.selects "ImageStores" ({ cls := "ImageStores", name := "shared", desc := "(II)I" } : Jvm.MethodName) ({ cls := "ImageStores", name := "shared", desc := "(II)I" } : Jvm.MethodName)) ∈ x_tb := x_i2 (i := 217) (by decide +kernel) (by decide +kernel)
theorem k458 : (Jvm.Cond.code ({ cls := "ImageStores", name := "shared", desc := "(II)I" } : Jvm.MethodName) prog_1_method_17_code (8 : Nat) (Option.some Jvm.ClassFile.FieldType.int)) ∈ x_tb := x_i2 (i := 218) (by decide +kernel) (by decide +kernel)
theorem k459 : (Jvm.Cond.methodLink "ImageStores" (158 : Nat) ({ cls := "ImageStores$Image", name := "hasLayerNumber", desc := "(I)Z" } : Jvm.MethodName)) ∈ x_tb := x_i2 (i := 219) (by decide +kernel) (by decide +kernel)
theorem k460 : (Jvm.Cond.instanceMethod ({ cls := "ImageStores$Image", name := "hasLayerNumber", desc := "(I)Z" } : Jvm.MethodName)) ∈ x_tb := x_i2 (i := 220) (by decide +kernel) (by decide +kernel)
theorem k461 : (Jvm.Cond.selects "ImageStores$Image" ({ cls := "ImageStores$Image", name := "hasLayerNumber", desc := "(I)Z" } : Jvm.MethodName) ({ cls := "ImageStores$Image", name := "hasLayerNumber", desc := "(I)Z" } : Jvm.MethodName)) ∈ x_tb := x_i2 (i := 221) (by decide +kernel) (by decide +kernel)
theorem k462 : (Jvm.Cond.code ({ cls := "ImageStores$Image", name := "hasLayerNumber", desc := "(I)Z" } : Jvm.MethodName) prog_2_method_2_code (6 : Nat) (Option.some Jvm.ClassFile.FieldType.boolean)) ∈ x_tb := x_i2 (i := 222) (by decide +kernel) (by decide +kernel)
theorem k463 : (Jvm.Cond.methodLink "ImageStoresLaw" (84 : Nat) ({ cls := "ImageStores", name := "count", desc := "(I)I" } : Jvm.MethodName)) ∈ x_tb := x_i2 (i := 223) (by decide +kernel) (by decide +kernel)
theorem k464 : (Jvm.Cond.instanceMethod ({ cls := "ImageStores", name := "count", desc := "(I)I" } : Jvm.MethodName)) ∈ x_tb := x_i2 (i := 224) (by decide +kernel) (by decide +kernel)
theorem k465 : (Jvm.Cond.selects "ImageStores" ({ cls := "ImageStores", name := "count", desc := "(I)I" } : Jvm.MethodName) ({ cls := "ImageStores", name := "count", desc := "(I)I" } : Jvm.MethodName)) ∈ x_tb := x_i2 (i := 225) (by decide +kernel) (by decide +kernel)
theorem k466 : (Jvm.Cond.code ({ cls := "ImageStores", name := "count", desc := "(I)I" } : Jvm.MethodName) prog_1_method_18_code (2 : Nat) (Option.some Jvm.ClassFile.FieldType.int)) ∈ x_tb := x_i2 (i := 226) (by decide +kernel) (by decide +kernel)
theorem k467 : (Jvm.Cond.methodLink "ImageStores" (162 : Nat) ({ cls := "ImageStores", name := "entriesIn", desc := "(LImageStores$Store;)I" } : Jvm.MethodName)) ∈ x_tb := x_i2 (i := 227) (by decide +kernel) (by decide +kernel)
theorem k469 : (Jvm.Cond.instanceMethod ({ cls := "ImageStores", name := "entriesIn", desc := "(LImageStores$Store;)I" } : Jvm.MethodName)) ∈ x_tb := x_i2 (i := 229) (by decide +kernel) (by decide +kernel)
theorem k470 : (Jvm.Cond.code ({ cls := "ImageStores", name := "entriesIn", desc := "(LImageStores$Store;)I" } : Jvm.MethodName) prog_1_method_32_code (4 : Nat) (Option.some Jvm.ClassFile.FieldType.int)) ∈ x_tb := x_i2 (i := 230) (by decide +kernel) (by decide +kernel)
theorem k471 : (Jvm.Cond.classLink "ImageStoresLaw" (10 : Nat) "ImageStoresModel") ∈ x_tb := x_i2 (i := 231) (by decide +kernel) (by decide +kernel)
theorem k472 : (Jvm.Cond.instantiable "ImageStoresModel" (8 : Nat)) ∈ x_tb := x_i2 (i := 232) (by decide +kernel) (by decide +kernel)
theorem k473 : (Jvm.Cond.methodLink "ImageStoresLaw" (12 : Nat) ({ cls := "ImageStoresModel", name := "<init>", desc := "()V" } : Jvm.MethodName)) ∈ x_tb := x_i2 (i := 233) (by decide +kernel) (by decide +kernel)
theorem k474 : (Jvm.Cond.instanceMethod ({ cls := "ImageStoresModel", name := "<init>", desc := "()V" } : Jvm.MethodName)) ∈ x_tb := x_i2 (i := 234) (by decide +kernel) (by decide +kernel)
theorem k475 : (Jvm.Cond.code ({ cls := "ImageStoresModel", name := "<init>", desc := "()V" } : Jvm.MethodName) prog_8_method_1_code (2 : Nat) (Option.none : Option Jvm.ClassFile.FieldType)) ∈ x_tb := x_i2 (i := 235) (by decide +kernel) (by decide +kernel)
theorem k476 : (Jvm.Cond.methodLink "ImageStoresModel" (1 : Nat) ({ cls := "java/lang/Object", name := "<init>", desc := "()V" } : Jvm.MethodName)) ∈ x_tb := x_i2 (i := 236) (by decide +kernel) (by decide +kernel)
theorem k477 : (Jvm.Cond.constantLong "ImageStoresModel" (34 : Nat) (10000000001 : Int64)) ∈ x_tb := x_i2 (i := 237) (by decide +kernel) (by decide +kernel)
theorem k478 : (Jvm.Cond.constantLong "ImageStoresModel" (36 : Nat) (10000000000 : Int64)) ∈ x_tb := x_i2 (i := 238) (by decide +kernel) (by decide +kernel)
theorem k479 : (Jvm.Cond.fieldLink "ImageStoresModel" (7 : Nat) "ImageStoresModel" "parent" "[I") ∈ x_tb := x_i2 (i := 239) (by decide +kernel) (by decide +kernel)
theorem k480 : (Jvm.Cond.fieldLink "ImageStoresModel" (13 : Nat) "ImageStoresModel" "tree" "[J") ∈ x_tb := x_i3 (i := 0) (by decide +kernel) (by decide +kernel)
theorem k481 : (Jvm.Cond.fieldLink "ImageStoresModel" (17 : Nat) "ImageStoresModel" "made" "I") ∈ x_tb := x_i3 (i := 1) (by decide +kernel) (by decide +kernel)
theorem k482 : (Jvm.Cond.fieldLink "ImageStoresModel" (21 : Nat) "ImageStoresModel" "holds" "[Z") ∈ x_tb := x_i3 (i := 2) (by decide +kernel) (by decide +kernel)
theorem k483 : (Jvm.Cond.fieldLink "ImageStoresModel" (25 : Nat) "ImageStoresModel" "tags" "[I") ∈ x_tb := x_i3 (i := 3) (by decide +kernel) (by decide +kernel)
theorem k484 : (Jvm.Cond.fieldLink "ImageStoresModel" (28 : Nat) "ImageStoresModel" "work" "[J") ∈ x_tb := x_i3 (i := 4) (by decide +kernel) (by decide +kernel)
theorem k485 : (Jvm.Cond.fieldLink "ImageStoresModel" (31 : Nat) "ImageStoresModel" "chosen" "[Z") ∈ x_tb := x_i3 (i := 5) (by decide +kernel) (by decide +kernel)
theorem k486 : (Jvm.Cond.fieldLink "ImageStoresModel" (84 : Nat) "ImageStoresModel" "again" "I") ∈ x_tb := x_i3 (i := 6) (by decide +kernel) (by decide +kernel)
theorem k487 : (Jvm.Cond.laysFinal "ImageStoresModel" "ImageStoresModel" "parent" "[I") ∈ x_tb := x_i3 (i := 7) (by decide +kernel) (by decide +kernel)
theorem k489 : (Jvm.Cond.laysFinal "ImageStoresModel" "ImageStoresModel" "tree" "[J") ∈ x_tb := x_i3 (i := 9) (by decide +kernel) (by decide +kernel)
theorem k491 : (Jvm.Cond.lays "ImageStoresModel" "ImageStoresModel" "made" "I") ∈ x_tb := x_i3 (i := 11) (by decide +kernel) (by decide +kernel)
theorem k493 : (Jvm.Cond.laysFinal "ImageStoresModel" "ImageStoresModel" "holds" "[Z") ∈ x_tb := x_i3 (i := 13) (by decide +kernel) (by decide +kernel)
theorem k495 : (Jvm.Cond.laysFinal "ImageStoresModel" "ImageStoresModel" "tags" "[I") ∈ x_tb := x_i3 (i := 15) (by decide +kernel) (by decide +kernel)
theorem k497 : (Jvm.Cond.laysFinal "ImageStoresModel" "ImageStoresModel" "work" "[J") ∈ x_tb := x_i3 (i := 17) (by decide +kernel) (by decide +kernel)
theorem k499 : (Jvm.Cond.laysFinal "ImageStoresModel" "ImageStoresModel" "chosen" "[Z") ∈ x_tb := x_i3 (i := 19) (by decide +kernel) (by decide +kernel)
theorem k501 : (Jvm.Cond.lays "ImageStoresModel" "ImageStoresModel" "again" "I") ∈ x_tb := x_i3 (i := 21) (by decide +kernel) (by decide +kernel)
theorem k504 : (Jvm.Cond.methodLink "ImageStoresLaw" (17 : Nat) ({ cls := "ImageStoresModel", name := "build", desc := "(IIII)I" } : Jvm.MethodName)) ∈ x_tb := x_i3 (i := 24) (by decide +kernel) (by decide +kernel)
theorem k505 : (Jvm.Cond.instanceMethod ({ cls := "ImageStoresModel", name := "build", desc := "(IIII)I" } : Jvm.MethodName)) ∈ x_tb := x_i3 (i := 25) (by decide +kernel) (by decide +kernel)
theorem k506 : (Jvm.Cond.selects "ImageStoresModel" ({ cls := "ImageStoresModel", name := "build", desc := "(IIII)I" } : Jvm.MethodName) ({ cls := "ImageStoresModel", name := "build", desc := "(IIII)I" } : Jvm.MethodName)) ∈ x_tb := x_i3 (i := 26) (by decide +kernel) (by decide +kernel)
theorem k507 : (Jvm.Cond.code ({ cls := "ImageStoresModel", name := "build", desc := "(IIII)I" } : Jvm.MethodName) prog_8_method_22_code (5 : Nat) (Option.some Jvm.ClassFile.FieldType.int)) ∈ x_tb := x_i3 (i := 27) (by decide +kernel) (by decide +kernel)
theorem k508 : (Jvm.Cond.methodLink "ImageStoresModel" (93 : Nat) ({ cls := "ImageStoresModel", name := "holding", desc := "(II)Z" } : Jvm.MethodName)) ∈ x_tb := x_i3 (i := 28) (by decide +kernel) (by decide +kernel)
theorem k510 : (Jvm.Cond.instanceMethod ({ cls := "ImageStoresModel", name := "holding", desc := "(II)Z" } : Jvm.MethodName)) ∈ x_tb := x_i3 (i := 30) (by decide +kernel) (by decide +kernel)
theorem k511 : (Jvm.Cond.code ({ cls := "ImageStoresModel", name := "holding", desc := "(II)Z" } : Jvm.MethodName) prog_8_method_10_code (3 : Nat) (Option.some Jvm.ClassFile.FieldType.boolean)) ∈ x_tb := x_i3 (i := 31) (by decide +kernel) (by decide +kernel)
theorem k512 : (Jvm.Cond.methodLink "ImageStoresModel" (50 : Nat) ({ cls := "ImageStoresModel", name := "is", desc := "(I)Z" } : Jvm.MethodName)) ∈ x_tb := x_i3 (i := 32) (by decide +kernel) (by decide +kernel)
theorem k514 : (Jvm.Cond.instanceMethod ({ cls := "ImageStoresModel", name := "is", desc := "(I)Z" } : Jvm.MethodName)) ∈ x_tb := x_i3 (i := 34) (by decide +kernel) (by decide +kernel)
theorem k515 : (Jvm.Cond.code ({ cls := "ImageStoresModel", name := "is", desc := "(I)Z" } : Jvm.MethodName) prog_8_method_9_code (2 : Nat) (Option.some Jvm.ClassFile.FieldType.boolean)) ∈ x_tb := x_i3 (i := 35) (by decide +kernel) (by decide +kernel)
theorem k516 : (Jvm.Cond.methodLink "ImageStoresModel" (46 : Nat) ({ cls := "ImageStoresModel", name := "legal", desc := "(I)Z" } : Jvm.MethodName)) ∈ x_tb := x_i3 (i := 36) (by decide +kernel) (by decide +kernel)
theorem k517 : (Jvm.Cond.static ({ cls := "ImageStoresModel", name := "legal", desc := "(I)Z" } : Jvm.MethodName)) ∈ x_tb := x_i3 (i := 37) (by decide +kernel) (by decide +kernel)
theorem k518 : (Jvm.Cond.code ({ cls := "ImageStoresModel", name := "legal", desc := "(I)Z" } : Jvm.MethodName) prog_8_method_3_code (1 : Nat) (Option.some Jvm.ClassFile.FieldType.boolean)) ∈ x_tb := x_i3 (i := 38) (by decide +kernel) (by decide +kernel)
theorem k519 : (Jvm.Cond.methodLink "ImageStoresModel" (96 : Nat) ({ cls := "ImageStoresModel", name := "load", desc := "(I)V" } : Jvm.MethodName)) ∈ x_tb := x_i3 (i := 39) (by decide +kernel) (by decide +kernel)
theorem k521 : (Jvm.Cond.instanceMethod ({ cls := "ImageStoresModel", name := "load", desc := "(I)V" } : Jvm.MethodName)) ∈ x_tb := x_i3 (i := 41) (by decide +kernel) (by decide +kernel)
theorem k522 : (Jvm.Cond.code ({ cls := "ImageStoresModel", name := "load", desc := "(I)V" } : Jvm.MethodName) prog_8_method_19_code (3 : Nat) (Option.none : Option Jvm.ClassFile.FieldType)) ∈ x_tb := x_i3 (i := 42) (by decide +kernel) (by decide +kernel)
theorem k523 : (Jvm.Cond.methodLink "ImageStoresModel" (100 : Nat) ({ cls := "ImageStoresModel", name := "change", desc := "(III)Z" } : Jvm.MethodName)) ∈ x_tb := x_i3 (i := 43) (by decide +kernel) (by decide +kernel)
theorem k525 : (Jvm.Cond.instanceMethod ({ cls := "ImageStoresModel", name := "change", desc := "(III)Z" } : Jvm.MethodName)) ∈ x_tb := x_i3 (i := 45) (by decide +kernel) (by decide +kernel)
theorem k526 : (Jvm.Cond.code ({ cls := "ImageStoresModel", name := "change", desc := "(III)Z" } : Jvm.MethodName) prog_8_method_17_code (4 : Nat) (Option.some Jvm.ClassFile.FieldType.boolean)) ∈ x_tb := x_i3 (i := 46) (by decide +kernel) (by decide +kernel)
theorem k527 : (Jvm.Cond.methodLink "ImageStoresModel" (71 : Nat) ({ cls := "ImageStoresModel", name := "underFile", desc := "(I)Z" } : Jvm.MethodName)) ∈ x_tb := x_i3 (i := 47) (by decide +kernel) (by decide +kernel)
theorem k529 : (Jvm.Cond.instanceMethod ({ cls := "ImageStoresModel", name := "underFile", desc := "(I)Z" } : Jvm.MethodName)) ∈ x_tb := x_i3 (i := 49) (by decide +kernel) (by decide +kernel)
theorem k530 : (Jvm.Cond.code ({ cls := "ImageStoresModel", name := "underFile", desc := "(I)Z" } : Jvm.MethodName) prog_8_method_12_code (3 : Nat) (Option.some Jvm.ClassFile.FieldType.boolean)) ∈ x_tb := x_i3 (i := 50) (by decide +kernel) (by decide +kernel)
theorem k531 : (Jvm.Cond.methodLink "ImageStoresModel" (38 : Nat) ({ cls := "ImageStoresModel", name := "depth", desc := "(I)I" } : Jvm.MethodName)) ∈ x_tb := x_i3 (i := 51) (by decide +kernel) (by decide +kernel)
theorem k532 : (Jvm.Cond.static ({ cls := "ImageStoresModel", name := "depth", desc := "(I)I" } : Jvm.MethodName)) ∈ x_tb := x_i3 (i := 52) (by decide +kernel) (by decide +kernel)
theorem k533 : (Jvm.Cond.code ({ cls := "ImageStoresModel", name := "depth", desc := "(I)I" } : Jvm.MethodName) prog_8_method_2_code (1 : Nat) (Option.some Jvm.ClassFile.FieldType.int)) ∈ x_tb := x_i3 (i := 53) (by decide +kernel) (by decide +kernel)
theorem k534 : (Jvm.Cond.methodLink "ImageStoresModel" (42 : Nat) ({ cls := "ImageStoresModel", name := "head", desc := "(II)I" } : Jvm.MethodName)) ∈ x_tb := x_i3 (i := 54) (by decide +kernel) (by decide +kernel)
theorem k535 : (Jvm.Cond.static ({ cls := "ImageStoresModel", name := "head", desc := "(II)I" } : Jvm.MethodName)) ∈ x_tb := x_i3 (i := 55) (by decide +kernel) (by decide +kernel)
theorem k536 : (Jvm.Cond.code ({ cls := "ImageStoresModel", name := "head", desc := "(II)I" } : Jvm.MethodName) prog_8_method_4_code (2 : Nat) (Option.some Jvm.ClassFile.FieldType.int)) ∈ x_tb := x_i3 (i := 56) (by decide +kernel) (by decide +kernel)
theorem k537 : (Jvm.Cond.methodLink "ImageStoresModel" (53 : Nat) ({ cls := "ImageStoresModel", name := "file", desc := "(J)Z" } : Jvm.MethodName)) ∈ x_tb := x_i3 (i := 57) (by decide +kernel) (by decide +kernel)
theorem k538 : (Jvm.Cond.static ({ cls := "ImageStoresModel", name := "file", desc := "(J)Z" } : Jvm.MethodName)) ∈ x_tb := x_i3 (i := 58) (by decide +kernel) (by decide +kernel)
theorem k539 : (Jvm.Cond.code ({ cls := "ImageStoresModel", name := "file", desc := "(J)Z" } : Jvm.MethodName) prog_8_method_8_code (2 : Nat) (Option.some Jvm.ClassFile.FieldType.boolean)) ∈ x_tb := x_i3 (i := 59) (by decide +kernel) (by decide +kernel)
theorem k540 : (Jvm.Cond.methodLink "ImageStoresModel" (74 : Nat) ({ cls := "ImageStoresModel", name := "raise", desc := "(IJ)Z" } : Jvm.MethodName)) ∈ x_tb := x_i3 (i := 60) (by decide +kernel) (by decide +kernel)
theorem k542 : (Jvm.Cond.instanceMethod ({ cls := "ImageStoresModel", name := "raise", desc := "(IJ)Z" } : Jvm.MethodName)) ∈ x_tb := x_i3 (i := 62) (by decide +kernel) (by decide +kernel)
theorem k543 : (Jvm.Cond.code ({ cls := "ImageStoresModel", name := "raise", desc := "(IJ)Z" } : Jvm.MethodName) prog_8_method_13_code (5 : Nat) (Option.some Jvm.ClassFile.FieldType.boolean)) ∈ x_tb := x_i3 (i := 63) (by decide +kernel) (by decide +kernel)
theorem k544 : (Jvm.Cond.methodLink "ImageStoresModel" (78 : Nat) ({ cls := "ImageStoresModel", name := "wipe", desc := "(I)Z" } : Jvm.MethodName)) ∈ x_tb := x_i3 (i := 64) (by decide +kernel) (by decide +kernel)
theorem k546 : (Jvm.Cond.instanceMethod ({ cls := "ImageStoresModel", name := "wipe", desc := "(I)Z" } : Jvm.MethodName)) ∈ x_tb := x_i3 (i := 66) (by decide +kernel) (by decide +kernel)
theorem k547 : (Jvm.Cond.code ({ cls := "ImageStoresModel", name := "wipe", desc := "(I)Z" } : Jvm.MethodName) prog_8_method_14_code (3 : Nat) (Option.some Jvm.ClassFile.FieldType.boolean)) ∈ x_tb := x_i3 (i := 67) (by decide +kernel) (by decide +kernel)
theorem k548 : (Jvm.Cond.methodLink "ImageStoresModel" (57 : Nat) ({ cls := "ImageStoresModel", name := "below", desc := "(II)Z" } : Jvm.MethodName)) ∈ x_tb := x_i3 (i := 68) (by decide +kernel) (by decide +kernel)
theorem k549 : (Jvm.Cond.static ({ cls := "ImageStoresModel", name := "below", desc := "(II)Z" } : Jvm.MethodName)) ∈ x_tb := x_i3 (i := 69) (by decide +kernel) (by decide +kernel)
theorem k550 : (Jvm.Cond.code ({ cls := "ImageStoresModel", name := "below", desc := "(II)Z" } : Jvm.MethodName) prog_8_method_6_code (2 : Nat) (Option.some Jvm.ClassFile.FieldType.boolean)) ∈ x_tb := x_i3 (i := 70) (by decide +kernel) (by decide +kernel)
theorem k551 : (Jvm.Cond.methodLink "ImageStoresModel" (81 : Nat) ({ cls := "ImageStoresModel", name := "copy", desc := "(II)Z" } : Jvm.MethodName)) ∈ x_tb := x_i3 (i := 71) (by decide +kernel) (by decide +kernel)
theorem k553 : (Jvm.Cond.instanceMethod ({ cls := "ImageStoresModel", name := "copy", desc := "(II)Z" } : Jvm.MethodName)) ∈ x_tb := x_i3 (i := 73) (by decide +kernel) (by decide +kernel)
theorem k554 : (Jvm.Cond.code ({ cls := "ImageStoresModel", name := "copy", desc := "(II)Z" } : Jvm.MethodName) prog_8_method_16_code (4 : Nat) (Option.some Jvm.ClassFile.FieldType.boolean)) ∈ x_tb := x_i3 (i := 74) (by decide +kernel) (by decide +kernel)
theorem k555 : (Jvm.Cond.methodLink "ImageStoresModel" (64 : Nat) ({ cls := "ImageStoresModel", name := "above", desc := "(I)I" } : Jvm.MethodName)) ∈ x_tb := x_i3 (i := 75) (by decide +kernel) (by decide +kernel)
theorem k556 : (Jvm.Cond.static ({ cls := "ImageStoresModel", name := "above", desc := "(I)I" } : Jvm.MethodName)) ∈ x_tb := x_i3 (i := 76) (by decide +kernel) (by decide +kernel)
theorem k557 : (Jvm.Cond.code ({ cls := "ImageStoresModel", name := "above", desc := "(I)I" } : Jvm.MethodName) prog_8_method_5_code (1 : Nat) (Option.some Jvm.ClassFile.FieldType.int)) ∈ x_tb := x_i3 (i := 77) (by decide +kernel) (by decide +kernel)
theorem k558 : (Jvm.Cond.methodLink "ImageStoresModel" (67 : Nat) ({ cls := "ImageStoresModel", name := "carried", desc := "(III)I" } : Jvm.MethodName)) ∈ x_tb := x_i3 (i := 78) (by decide +kernel) (by decide +kernel)
theorem k559 : (Jvm.Cond.static ({ cls := "ImageStoresModel", name := "carried", desc := "(III)I" } : Jvm.MethodName)) ∈ x_tb := x_i3 (i := 79) (by decide +kernel) (by decide +kernel)
theorem k560 : (Jvm.Cond.code ({ cls := "ImageStoresModel", name := "carried", desc := "(III)I" } : Jvm.MethodName) prog_8_method_15_code (6 : Nat) (Option.some Jvm.ClassFile.FieldType.int)) ∈ x_tb := x_i3 (i := 80) (by decide +kernel) (by decide +kernel)
theorem k561 : (Jvm.Cond.methodLink "ImageStoresModel" (61 : Nat) ({ cls := "ImageStoresModel", name := "name", desc := "(II)I" } : Jvm.MethodName)) ∈ x_tb := x_i3 (i := 81) (by decide +kernel) (by decide +kernel)
theorem k562 : (Jvm.Cond.static ({ cls := "ImageStoresModel", name := "name", desc := "(II)I" } : Jvm.MethodName)) ∈ x_tb := x_i3 (i := 82) (by decide +kernel) (by decide +kernel)
theorem k563 : (Jvm.Cond.code ({ cls := "ImageStoresModel", name := "name", desc := "(II)I" } : Jvm.MethodName) prog_8_method_7_code (2 : Nat) (Option.some Jvm.ClassFile.FieldType.int)) ∈ x_tb := x_i3 (i := 83) (by decide +kernel) (by decide +kernel)
theorem k564 : (Jvm.Cond.methodLink "ImageStoresModel" (104 : Nat) ({ cls := "ImageStoresModel", name := "image", desc := "(I)I" } : Jvm.MethodName)) ∈ x_tb := x_i3 (i := 84) (by decide +kernel) (by decide +kernel)
theorem k566 : (Jvm.Cond.instanceMethod ({ cls := "ImageStoresModel", name := "image", desc := "(I)I" } : Jvm.MethodName)) ∈ x_tb := x_i3 (i := 86) (by decide +kernel) (by decide +kernel)
theorem k567 : (Jvm.Cond.code ({ cls := "ImageStoresModel", name := "image", desc := "(I)I" } : Jvm.MethodName) prog_8_method_21_code (3 : Nat) (Option.some Jvm.ClassFile.FieldType.int)) ∈ x_tb := x_i3 (i := 87) (by decide +kernel) (by decide +kernel)
theorem k568 : (Jvm.Cond.methodLink "ImageStoresModel" (87 : Nat) ({ cls := "ImageStoresModel", name := "workIs", desc := "(I)Z" } : Jvm.MethodName)) ∈ x_tb := x_i3 (i := 88) (by decide +kernel) (by decide +kernel)
theorem k570 : (Jvm.Cond.instanceMethod ({ cls := "ImageStoresModel", name := "workIs", desc := "(I)Z" } : Jvm.MethodName)) ∈ x_tb := x_i3 (i := 90) (by decide +kernel) (by decide +kernel)
theorem k571 : (Jvm.Cond.code ({ cls := "ImageStoresModel", name := "workIs", desc := "(I)Z" } : Jvm.MethodName) prog_8_method_18_code (3 : Nat) (Option.some Jvm.ClassFile.FieldType.boolean)) ∈ x_tb := x_i3 (i := 91) (by decide +kernel) (by decide +kernel)
theorem k572 : (Jvm.Cond.methodLink "ImageStoresModel" (90 : Nat) ({ cls := "ImageStoresModel", name := "answer", desc := "(I)I" } : Jvm.MethodName)) ∈ x_tb := x_i3 (i := 92) (by decide +kernel) (by decide +kernel)
theorem k574 : (Jvm.Cond.instanceMethod ({ cls := "ImageStoresModel", name := "answer", desc := "(I)I" } : Jvm.MethodName)) ∈ x_tb := x_i3 (i := 94) (by decide +kernel) (by decide +kernel)
theorem k575 : (Jvm.Cond.code ({ cls := "ImageStoresModel", name := "answer", desc := "(I)I" } : Jvm.MethodName) prog_8_method_20_code (2 : Nat) (Option.some Jvm.ClassFile.FieldType.int)) ∈ x_tb := x_i3 (i := 95) (by decide +kernel) (by decide +kernel)
theorem k576 : (Jvm.Cond.methodLink "ImageStoresLaw" (22 : Nat) ({ cls := "ImageStoresModel", name := "flatten", desc := "(I)I" } : Jvm.MethodName)) ∈ x_tb := x_i3 (i := 96) (by decide +kernel) (by decide +kernel)
theorem k577 : (Jvm.Cond.instanceMethod ({ cls := "ImageStoresModel", name := "flatten", desc := "(I)I" } : Jvm.MethodName)) ∈ x_tb := x_i3 (i := 97) (by decide +kernel) (by decide +kernel)
theorem k578 : (Jvm.Cond.selects "ImageStoresModel" ({ cls := "ImageStoresModel", name := "flatten", desc := "(I)I" } : Jvm.MethodName) ({ cls := "ImageStoresModel", name := "flatten", desc := "(I)I" } : Jvm.MethodName)) ∈ x_tb := x_i3 (i := 98) (by decide +kernel) (by decide +kernel)
theorem k579 : (Jvm.Cond.code ({ cls := "ImageStoresModel", name := "flatten", desc := "(I)I" } : Jvm.MethodName) prog_8_method_23_code (2 : Nat) (Option.some Jvm.ClassFile.FieldType.int)) ∈ x_tb := x_i3 (i := 99) (by decide +kernel) (by decide +kernel)
theorem k580 : (Jvm.Cond.methodLink "ImageStoresLaw" (27 : Nat) ({ cls := "ImageStoresModel", name := "tag", desc := "(III)I" } : Jvm.MethodName)) ∈ x_tb := x_i3 (i := 100) (by decide +kernel) (by decide +kernel)
theorem k581 : (Jvm.Cond.instanceMethod ({ cls := "ImageStoresModel", name := "tag", desc := "(III)I" } : Jvm.MethodName)) ∈ x_tb := x_i3 (i := 101) (by decide +kernel) (by decide +kernel)
theorem k582 : (Jvm.Cond.selects "ImageStoresModel" ({ cls := "ImageStoresModel", name := "tag", desc := "(III)I" } : Jvm.MethodName) ({ cls := "ImageStoresModel", name := "tag", desc := "(III)I" } : Jvm.MethodName)) ∈ x_tb := x_i3 (i := 102) (by decide +kernel) (by decide +kernel)
theorem k583 : (Jvm.Cond.code ({ cls := "ImageStoresModel", name := "tag", desc := "(III)I" } : Jvm.MethodName) prog_8_method_34_code (5 : Nat) (Option.some Jvm.ClassFile.FieldType.int)) ∈ x_tb := x_i3 (i := 103) (by decide +kernel) (by decide +kernel)
theorem k584 : (Jvm.Cond.methodLink "ImageStoresModel" (133 : Nat) ({ cls := "ImageStoresModel", name := "badTag", desc := "(II)Z" } : Jvm.MethodName)) ∈ x_tb := x_i3 (i := 104) (by decide +kernel) (by decide +kernel)
theorem k585 : (Jvm.Cond.static ({ cls := "ImageStoresModel", name := "badTag", desc := "(II)Z" } : Jvm.MethodName)) ∈ x_tb := x_i3 (i := 105) (by decide +kernel) (by decide +kernel)
theorem k586 : (Jvm.Cond.code ({ cls := "ImageStoresModel", name := "badTag", desc := "(II)Z" } : Jvm.MethodName) prog_8_method_11_code (2 : Nat) (Option.some Jvm.ClassFile.FieldType.boolean)) ∈ x_tb := x_i3 (i := 106) (by decide +kernel) (by decide +kernel)
theorem k587 : (Jvm.Cond.methodLink "ImageStoresLaw" (32 : Nat) ({ cls := "ImageStoresModel", name := "untag", desc := "(II)I" } : Jvm.MethodName)) ∈ x_tb := x_i3 (i := 107) (by decide +kernel) (by decide +kernel)
theorem k588 : (Jvm.Cond.instanceMethod ({ cls := "ImageStoresModel", name := "untag", desc := "(II)I" } : Jvm.MethodName)) ∈ x_tb := x_i3 (i := 108) (by decide +kernel) (by decide +kernel)
theorem k589 : (Jvm.Cond.selects "ImageStoresModel" ({ cls := "ImageStoresModel", name := "untag", desc := "(II)I" } : Jvm.MethodName) ({ cls := "ImageStoresModel", name := "untag", desc := "(II)I" } : Jvm.MethodName)) ∈ x_tb := x_i3 (i := 109) (by decide +kernel) (by decide +kernel)
theorem k590 : (Jvm.Cond.code ({ cls := "ImageStoresModel", name := "untag", desc := "(II)I" } : Jvm.MethodName) prog_8_method_35_code (4 : Nat) (Option.some Jvm.ClassFile.FieldType.int)) ∈ x_tb := x_i3 (i := 110) (by decide +kernel) (by decide +kernel)
theorem k591 : (Jvm.Cond.methodLink "ImageStoresLaw" (36 : Nat) ({ cls := "ImageStoresModel", name := "send", desc := "(II)I" } : Jvm.MethodName)) ∈ x_tb := x_i3 (i := 111) (by decide +kernel) (by decide +kernel)
theorem k592 : (Jvm.Cond.instanceMethod ({ cls := "ImageStoresModel", name := "send", desc := "(II)I" } : Jvm.MethodName)) ∈ x_tb := x_i3 (i := 112) (by decide +kernel) (by decide +kernel)
theorem k593 : (Jvm.Cond.selects "ImageStoresModel" ({ cls := "ImageStoresModel", name := "send", desc := "(II)I" } : Jvm.MethodName) ({ cls := "ImageStoresModel", name := "send", desc := "(II)I" } : Jvm.MethodName)) ∈ x_tb := x_i3 (i := 113) (by decide +kernel) (by decide +kernel)
theorem k594 : (Jvm.Cond.code ({ cls := "ImageStoresModel", name := "send", desc := "(II)I" } : Jvm.MethodName) prog_8_method_36_code (6 : Nat) (Option.some Jvm.ClassFile.FieldType.int)) ∈ x_tb := x_i3 (i := 114) (by decide +kernel) (by decide +kernel)
theorem k595 : (Jvm.Cond.methodLink "ImageStoresModel" (136 : Nat) ({ cls := "ImageStoresModel", name := "chooseHeld", desc := "(I)V" } : Jvm.MethodName)) ∈ x_tb := x_i3 (i := 115) (by decide +kernel) (by decide +kernel)
theorem k597 : (Jvm.Cond.instanceMethod ({ cls := "ImageStoresModel", name := "chooseHeld", desc := "(I)V" } : Jvm.MethodName)) ∈ x_tb := x_i3 (i := 117) (by decide +kernel) (by decide +kernel)
theorem k598 : (Jvm.Cond.code ({ cls := "ImageStoresModel", name := "chooseHeld", desc := "(I)V" } : Jvm.MethodName) prog_8_method_31_code (3 : Nat) (Option.none : Option Jvm.ClassFile.FieldType)) ∈ x_tb := x_i3 (i := 118) (by decide +kernel) (by decide +kernel)
theorem k599 : (Jvm.Cond.methodLink "ImageStoresModel" (118 : Nat) ({ cls := "ImageStoresModel", name := "chooseNone", desc := "()V" } : Jvm.MethodName)) ∈ x_tb := x_i3 (i := 119) (by decide +kernel) (by decide +kernel)
theorem k601 : (Jvm.Cond.instanceMethod ({ cls := "ImageStoresModel", name := "chooseNone", desc := "()V" } : Jvm.MethodName)) ∈ x_tb := x_i3 (i := 121) (by decide +kernel) (by decide +kernel)
theorem k602 : (Jvm.Cond.code ({ cls := "ImageStoresModel", name := "chooseNone", desc := "()V" } : Jvm.MethodName) prog_8_method_30_code (2 : Nat) (Option.none : Option Jvm.ClassFile.FieldType)) ∈ x_tb := x_i3 (i := 122) (by decide +kernel) (by decide +kernel)
theorem k603 : (Jvm.Cond.methodLink "ImageStoresModel" (121 : Nat) ({ cls := "ImageStoresModel", name := "choose", desc := "(I)V" } : Jvm.MethodName)) ∈ x_tb := x_i3 (i := 123) (by decide +kernel) (by decide +kernel)
theorem k605 : (Jvm.Cond.instanceMethod ({ cls := "ImageStoresModel", name := "choose", desc := "(I)V" } : Jvm.MethodName)) ∈ x_tb := x_i3 (i := 125) (by decide +kernel) (by decide +kernel)
theorem k606 : (Jvm.Cond.code ({ cls := "ImageStoresModel", name := "choose", desc := "(I)V" } : Jvm.MethodName) prog_8_method_29_code (3 : Nat) (Option.none : Option Jvm.ClassFile.FieldType)) ∈ x_tb := x_i3 (i := 126) (by decide +kernel) (by decide +kernel)
theorem k607 : (Jvm.Cond.methodLink "ImageStoresModel" (139 : Nat) ({ cls := "ImageStoresModel", name := "different", desc := "(Z)I" } : Jvm.MethodName)) ∈ x_tb := x_i3 (i := 127) (by decide +kernel) (by decide +kernel)
theorem k609 : (Jvm.Cond.instanceMethod ({ cls := "ImageStoresModel", name := "different", desc := "(Z)I" } : Jvm.MethodName)) ∈ x_tb := x_i3 (i := 129) (by decide +kernel) (by decide +kernel)
theorem k610 : (Jvm.Cond.code ({ cls := "ImageStoresModel", name := "different", desc := "(Z)I" } : Jvm.MethodName) prog_8_method_33_code (4 : Nat) (Option.some Jvm.ClassFile.FieldType.int)) ∈ x_tb := x_i3 (i := 130) (by decide +kernel) (by decide +kernel)
theorem k611 : (Jvm.Cond.methodLink "ImageStoresModel" (127 : Nat) ({ cls := "ImageStoresModel", name := "there", desc := "(II)Z" } : Jvm.MethodName)) ∈ x_tb := x_i3 (i := 131) (by decide +kernel) (by decide +kernel)
theorem k613 : (Jvm.Cond.instanceMethod ({ cls := "ImageStoresModel", name := "there", desc := "(II)Z" } : Jvm.MethodName)) ∈ x_tb := x_i3 (i := 133) (by decide +kernel) (by decide +kernel)
theorem k614 : (Jvm.Cond.code ({ cls := "ImageStoresModel", name := "there", desc := "(II)Z" } : Jvm.MethodName) prog_8_method_32_code (4 : Nat) (Option.some Jvm.ClassFile.FieldType.boolean)) ∈ x_tb := x_i3 (i := 134) (by decide +kernel) (by decide +kernel)
theorem k615 : (Jvm.Cond.methodLink "ImageStoresModel" (124 : Nat) ({ cls := "ImageStoresModel", name := "same", desc := "(II)Z" } : Jvm.MethodName)) ∈ x_tb := x_i3 (i := 135) (by decide +kernel) (by decide +kernel)
theorem k617 : (Jvm.Cond.instanceMethod ({ cls := "ImageStoresModel", name := "same", desc := "(II)Z" } : Jvm.MethodName)) ∈ x_tb := x_i3 (i := 137) (by decide +kernel) (by decide +kernel)
theorem k618 : (Jvm.Cond.code ({ cls := "ImageStoresModel", name := "same", desc := "(II)Z" } : Jvm.MethodName) prog_8_method_25_code (4 : Nat) (Option.some Jvm.ClassFile.FieldType.boolean)) ∈ x_tb := x_i3 (i := 138) (by decide +kernel) (by decide +kernel)
theorem k619 : (Jvm.Cond.methodLink "ImageStoresModel" (111 : Nat) ({ cls := "ImageStoresModel", name := "mark", desc := "(II)J" } : Jvm.MethodName)) ∈ x_tb := x_i3 (i := 139) (by decide +kernel) (by decide +kernel)
theorem k621 : (Jvm.Cond.instanceMethod ({ cls := "ImageStoresModel", name := "mark", desc := "(II)J" } : Jvm.MethodName)) ∈ x_tb := x_i3 (i := 141) (by decide +kernel) (by decide +kernel)
theorem k622 : (Jvm.Cond.code ({ cls := "ImageStoresModel", name := "mark", desc := "(II)J" } : Jvm.MethodName) prog_8_method_24_code (7 : Nat) (Option.some Jvm.ClassFile.FieldType.long)) ∈ x_tb := x_i3 (i := 142) (by decide +kernel) (by decide +kernel)
theorem k623 : (Jvm.Cond.constantLong "ImageStoresModel" (107 : Nat) (10000000003 : Int64)) ∈ x_tb := x_i3 (i := 143) (by decide +kernel) (by decide +kernel)
theorem k624 : (Jvm.Cond.constantLong "ImageStoresModel" (109 : Nat) (10000000002 : Int64)) ∈ x_tb := x_i3 (i := 144) (by decide +kernel) (by decide +kernel)
theorem k625 : (Jvm.Cond.methodLink "ImageStoresModel" (130 : Nat) ({ cls := "ImageStoresModel", name := "size", desc := "(I)I" } : Jvm.MethodName)) ∈ x_tb := x_i3 (i := 145) (by decide +kernel) (by decide +kernel)
theorem k627 : (Jvm.Cond.instanceMethod ({ cls := "ImageStoresModel", name := "size", desc := "(I)I" } : Jvm.MethodName)) ∈ x_tb := x_i3 (i := 147) (by decide +kernel) (by decide +kernel)
theorem k628 : (Jvm.Cond.code ({ cls := "ImageStoresModel", name := "size", desc := "(I)I" } : Jvm.MethodName) prog_8_method_26_code (4 : Nat) (Option.some Jvm.ClassFile.FieldType.int)) ∈ x_tb := x_i3 (i := 148) (by decide +kernel) (by decide +kernel)
theorem k629 : (Jvm.Cond.methodLink "ImageStoresLaw" (40 : Nat) ({ cls := "ImageStoresModel", name := "collect", desc := "(I)I" } : Jvm.MethodName)) ∈ x_tb := x_i3 (i := 149) (by decide +kernel) (by decide +kernel)
theorem k630 : (Jvm.Cond.instanceMethod ({ cls := "ImageStoresModel", name := "collect", desc := "(I)I" } : Jvm.MethodName)) ∈ x_tb := x_i3 (i := 150) (by decide +kernel) (by decide +kernel)
theorem k631 : (Jvm.Cond.selects "ImageStoresModel" ({ cls := "ImageStoresModel", name := "collect", desc := "(I)I" } : Jvm.MethodName) ({ cls := "ImageStoresModel", name := "collect", desc := "(I)I" } : Jvm.MethodName)) ∈ x_tb := x_i3 (i := 151) (by decide +kernel) (by decide +kernel)
theorem k632 : (Jvm.Cond.code ({ cls := "ImageStoresModel", name := "collect", desc := "(I)I" } : Jvm.MethodName) prog_8_method_37_code (4 : Nat) (Option.some Jvm.ClassFile.FieldType.int)) ∈ x_tb := x_i3 (i := 152) (by decide +kernel) (by decide +kernel)
theorem k633 : (Jvm.Cond.methodLink "ImageStoresLaw" (44 : Nat) ({ cls := "ImageStoresModel", name := "named", desc := "(II)I" } : Jvm.MethodName)) ∈ x_tb := x_i3 (i := 153) (by decide +kernel) (by decide +kernel)
theorem k634 : (Jvm.Cond.instanceMethod ({ cls := "ImageStoresModel", name := "named", desc := "(II)I" } : Jvm.MethodName)) ∈ x_tb := x_i3 (i := 154) (by decide +kernel) (by decide +kernel)
theorem k635 : (Jvm.Cond.selects "ImageStoresModel" ({ cls := "ImageStoresModel", name := "named", desc := "(II)I" } : Jvm.MethodName) ({ cls := "ImageStoresModel", name := "named", desc := "(II)I" } : Jvm.MethodName)) ∈ x_tb := x_i3 (i := 155) (by decide +kernel) (by decide +kernel)
theorem k636 : (Jvm.Cond.code ({ cls := "ImageStoresModel", name := "named", desc := "(II)I" } : Jvm.MethodName) prog_8_method_38_code (3 : Nat) (Option.some Jvm.ClassFile.FieldType.int)) ∈ x_tb := x_i3 (i := 156) (by decide +kernel) (by decide +kernel)
theorem k637 : (Jvm.Cond.methodLink "ImageStoresLaw" (49 : Nat) ({ cls := "ImageStoresModel", name := "held", desc := "(II)Z" } : Jvm.MethodName)) ∈ x_tb := x_i3 (i := 157) (by decide +kernel) (by decide +kernel)
theorem k638 : (Jvm.Cond.instanceMethod ({ cls := "ImageStoresModel", name := "held", desc := "(II)Z" } : Jvm.MethodName)) ∈ x_tb := x_i3 (i := 158) (by decide +kernel) (by decide +kernel)
theorem k639 : (Jvm.Cond.selects "ImageStoresModel" ({ cls := "ImageStoresModel", name := "held", desc := "(II)Z" } : Jvm.MethodName) ({ cls := "ImageStoresModel", name := "held", desc := "(II)Z" } : Jvm.MethodName)) ∈ x_tb := x_i3 (i := 159) (by decide +kernel) (by decide +kernel)
theorem k640 : (Jvm.Cond.code ({ cls := "ImageStoresModel", name := "held", desc := "(II)Z" } : Jvm.MethodName) prog_8_method_39_code (3 : Nat) (Option.some Jvm.ClassFile.FieldType.boolean)) ∈ x_tb := x_i3 (i := 160) (by decide +kernel) (by decide +kernel)
theorem k641 : (Jvm.Cond.methodLink "ImageStoresLaw" (54 : Nat) ({ cls := "ImageStoresModel", name := "look", desc := "(II)J" } : Jvm.MethodName)) ∈ x_tb := x_i3 (i := 161) (by decide +kernel) (by decide +kernel)
theorem k642 : (Jvm.Cond.instanceMethod ({ cls := "ImageStoresModel", name := "look", desc := "(II)J" } : Jvm.MethodName)) ∈ x_tb := x_i3 (i := 162) (by decide +kernel) (by decide +kernel)
theorem k643 : (Jvm.Cond.selects "ImageStoresModel" ({ cls := "ImageStoresModel", name := "look", desc := "(II)J" } : Jvm.MethodName) ({ cls := "ImageStoresModel", name := "look", desc := "(II)J" } : Jvm.MethodName)) ∈ x_tb := x_i3 (i := 163) (by decide +kernel) (by decide +kernel)
theorem k644 : (Jvm.Cond.code ({ cls := "ImageStoresModel", name := "look", desc := "(II)J" } : Jvm.MethodName) prog_8_method_40_code (3 : Nat) (Option.some Jvm.ClassFile.FieldType.long)) ∈ x_tb := x_i3 (i := 164) (by decide +kernel) (by decide +kernel)
theorem k645 : (Jvm.Cond.methodLink "ImageStoresLaw" (58 : Nat) ({ cls := "ImageStoresModel", name := "next", desc := "(II)I" } : Jvm.MethodName)) ∈ x_tb := x_i3 (i := 165) (by decide +kernel) (by decide +kernel)
theorem k646 : (Jvm.Cond.instanceMethod ({ cls := "ImageStoresModel", name := "next", desc := "(II)I" } : Jvm.MethodName)) ∈ x_tb := x_i3 (i := 166) (by decide +kernel) (by decide +kernel)
theorem k647 : (Jvm.Cond.selects "ImageStoresModel" ({ cls := "ImageStoresModel", name := "next", desc := "(II)I" } : Jvm.MethodName) ({ cls := "ImageStoresModel", name := "next", desc := "(II)I" } : Jvm.MethodName)) ∈ x_tb := x_i3 (i := 167) (by decide +kernel) (by decide +kernel)
theorem k648 : (Jvm.Cond.code ({ cls := "ImageStoresModel", name := "next", desc := "(II)I" } : Jvm.MethodName) prog_8_method_41_code (4 : Nat) (Option.some Jvm.ClassFile.FieldType.int)) ∈ x_tb := x_i3 (i := 168) (by decide +kernel) (by decide +kernel)
theorem k649 : (Jvm.Cond.methodLink "ImageStoresLaw" (62 : Nat) ({ cls := "ImageStoresModel", name := "layers", desc := "(I)I" } : Jvm.MethodName)) ∈ x_tb := x_i3 (i := 169) (by decide +kernel) (by decide +kernel)
theorem k650 : (Jvm.Cond.instanceMethod ({ cls := "ImageStoresModel", name := "layers", desc := "(I)I" } : Jvm.MethodName)) ∈ x_tb := x_i3 (i := 170) (by decide +kernel) (by decide +kernel)
theorem k651 : (Jvm.Cond.selects "ImageStoresModel" ({ cls := "ImageStoresModel", name := "layers", desc := "(I)I" } : Jvm.MethodName) ({ cls := "ImageStoresModel", name := "layers", desc := "(I)I" } : Jvm.MethodName)) ∈ x_tb := x_i3 (i := 171) (by decide +kernel) (by decide +kernel)
theorem k652 : (Jvm.Cond.code ({ cls := "ImageStoresModel", name := "layers", desc := "(I)I" } : Jvm.MethodName) prog_8_method_42_code (2 : Nat) (Option.some Jvm.ClassFile.FieldType.int)) ∈ x_tb := x_i3 (i := 172) (by decide +kernel) (by decide +kernel)
theorem k653 : (Jvm.Cond.methodLink "ImageStoresModel" (115 : Nat) ({ cls := "ImageStoresModel", name := "layerCount", desc := "(I)I" } : Jvm.MethodName)) ∈ x_tb := x_i3 (i := 173) (by decide +kernel) (by decide +kernel)
theorem k655 : (Jvm.Cond.instanceMethod ({ cls := "ImageStoresModel", name := "layerCount", desc := "(I)I" } : Jvm.MethodName)) ∈ x_tb := x_i3 (i := 175) (by decide +kernel) (by decide +kernel)
theorem k656 : (Jvm.Cond.code ({ cls := "ImageStoresModel", name := "layerCount", desc := "(I)I" } : Jvm.MethodName) prog_8_method_27_code (4 : Nat) (Option.some Jvm.ClassFile.FieldType.int)) ∈ x_tb := x_i3 (i := 176) (by decide +kernel) (by decide +kernel)
theorem k657 : (Jvm.Cond.methodLink "ImageStoresLaw" (66 : Nat) ({ cls := "ImageStoresModel", name := "entries", desc := "(II)I" } : Jvm.MethodName)) ∈ x_tb := x_i3 (i := 177) (by decide +kernel) (by decide +kernel)
theorem k658 : (Jvm.Cond.instanceMethod ({ cls := "ImageStoresModel", name := "entries", desc := "(II)I" } : Jvm.MethodName)) ∈ x_tb := x_i3 (i := 178) (by decide +kernel) (by decide +kernel)
theorem k659 : (Jvm.Cond.selects "ImageStoresModel" ({ cls := "ImageStoresModel", name := "entries", desc := "(II)I" } : Jvm.MethodName) ({ cls := "ImageStoresModel", name := "entries", desc := "(II)I" } : Jvm.MethodName)) ∈ x_tb := x_i3 (i := 179) (by decide +kernel) (by decide +kernel)
theorem k660 : (Jvm.Cond.code ({ cls := "ImageStoresModel", name := "entries", desc := "(II)I" } : Jvm.MethodName) prog_8_method_43_code (3 : Nat) (Option.some Jvm.ClassFile.FieldType.int)) ∈ x_tb := x_i3 (i := 180) (by decide +kernel) (by decide +kernel)
theorem k661 : (Jvm.Cond.methodLink "ImageStoresModel" (143 : Nat) ({ cls := "ImageStoresModel", name := "owner", desc := "(II)I" } : Jvm.MethodName)) ∈ x_tb := x_i3 (i := 181) (by decide +kernel) (by decide +kernel)
theorem k663 : (Jvm.Cond.instanceMethod ({ cls := "ImageStoresModel", name := "owner", desc := "(II)I" } : Jvm.MethodName)) ∈ x_tb := x_i3 (i := 183) (by decide +kernel) (by decide +kernel)
theorem k664 : (Jvm.Cond.code ({ cls := "ImageStoresModel", name := "owner", desc := "(II)I" } : Jvm.MethodName) prog_8_method_28_code (6 : Nat) (Option.some Jvm.ClassFile.FieldType.int)) ∈ x_tb := x_i3 (i := 184) (by decide +kernel) (by decide +kernel)
theorem k665 : (Jvm.Cond.methodLink "ImageStoresLaw" (70 : Nat) ({ cls := "ImageStoresModel", name := "entryPath", desc := "(III)I" } : Jvm.MethodName)) ∈ x_tb := x_i3 (i := 185) (by decide +kernel) (by decide +kernel)
theorem k666 : (Jvm.Cond.instanceMethod ({ cls := "ImageStoresModel", name := "entryPath", desc := "(III)I" } : Jvm.MethodName)) ∈ x_tb := x_i3 (i := 186) (by decide +kernel) (by decide +kernel)
theorem k667 : (Jvm.Cond.selects "ImageStoresModel" ({ cls := "ImageStoresModel", name := "entryPath", desc := "(III)I" } : Jvm.MethodName) ({ cls := "ImageStoresModel", name := "entryPath", desc := "(III)I" } : Jvm.MethodName)) ∈ x_tb := x_i3 (i := 187) (by decide +kernel) (by decide +kernel)
theorem k668 : (Jvm.Cond.code ({ cls := "ImageStoresModel", name := "entryPath", desc := "(III)I" } : Jvm.MethodName) prog_8_method_44_code (7 : Nat) (Option.some Jvm.ClassFile.FieldType.int)) ∈ x_tb := x_i3 (i := 188) (by decide +kernel) (by decide +kernel)
theorem k669 : (Jvm.Cond.methodLink "ImageStoresLaw" (75 : Nat) ({ cls := "ImageStoresModel", name := "entryMark", desc := "(III)J" } : Jvm.MethodName)) ∈ x_tb := x_i3 (i := 189) (by decide +kernel) (by decide +kernel)
theorem k670 : (Jvm.Cond.instanceMethod ({ cls := "ImageStoresModel", name := "entryMark", desc := "(III)J" } : Jvm.MethodName)) ∈ x_tb := x_i3 (i := 190) (by decide +kernel) (by decide +kernel)
theorem k671 : (Jvm.Cond.selects "ImageStoresModel" ({ cls := "ImageStoresModel", name := "entryMark", desc := "(III)J" } : Jvm.MethodName) ({ cls := "ImageStoresModel", name := "entryMark", desc := "(III)J" } : Jvm.MethodName)) ∈ x_tb := x_i3 (i := 191) (by decide +kernel) (by decide +kernel)
theorem k672 : (Jvm.Cond.code ({ cls := "ImageStoresModel", name := "entryMark", desc := "(III)J" } : Jvm.MethodName) prog_8_method_45_code (5 : Nat) (Option.some Jvm.ClassFile.FieldType.long)) ∈ x_tb := x_i3 (i := 192) (by decide +kernel) (by decide +kernel)
theorem k673 : (Jvm.Cond.methodLink "ImageStoresModel" (146 : Nat) ({ cls := "ImageStoresModel", name := "entryPath", desc := "(III)I" } : Jvm.MethodName)) ∈ x_tb := x_i3 (i := 193) (by decide +kernel) (by decide +kernel)
theorem k674 : (Jvm.Cond.methodLink "ImageStoresLaw" (79 : Nat) ({ cls := "ImageStoresModel", name := "common", desc := "(II)I" } : Jvm.MethodName)) ∈ x_tb := x_i3 (i := 194) (by decide +kernel) (by decide +kernel)
theorem k675 : (Jvm.Cond.instanceMethod ({ cls := "ImageStoresModel", name := "common", desc := "(II)I" } : Jvm.MethodName)) ∈ x_tb := x_i3 (i := 195) (by decide +kernel) (by decide +kernel)
theorem k676 : (Jvm.Cond.selects "ImageStoresModel" ({ cls := "ImageStoresModel", name := "common", desc := "(II)I" } : Jvm.MethodName) ({ cls := "ImageStoresModel", name := "common", desc := "(II)I" } : Jvm.MethodName)) ∈ x_tb := x_i3 (i := 196) (by decide +kernel) (by decide +kernel)
theorem k677 : (Jvm.Cond.code ({ cls := "ImageStoresModel", name := "common", desc := "(II)I" } : Jvm.MethodName) prog_8_method_46_code (4 : Nat) (Option.some Jvm.ClassFile.FieldType.int)) ∈ x_tb := x_i3 (i := 197) (by decide +kernel) (by decide +kernel)
theorem k678 : (Jvm.Cond.methodLink "ImageStoresLaw" (83 : Nat) ({ cls := "ImageStoresModel", name := "shared", desc := "(II)I" } : Jvm.MethodName)) ∈ x_tb := x_i3 (i := 198) (by decide +kernel) (by decide +kernel)
theorem k679 : (Jvm.Cond.instanceMethod ({ cls := "ImageStoresModel", name := "shared", desc := "(II)I" } : Jvm.MethodName)) ∈ x_tb := x_i3 (i := 199) (by decide +kernel) (by decide +kernel)
theorem k680 : (Jvm.Cond.selects "ImageStoresModel" ({ cls := "ImageStoresModel", name := "shared", desc := "(II)I" } : Jvm.MethodName) ({ cls := "ImageStoresModel", name := "shared", desc := "(II)I" } : Jvm.MethodName)) ∈ x_tb := x_i3 (i := 200) (by decide +kernel) (by decide +kernel)
theorem k681 : (Jvm.Cond.code ({ cls := "ImageStoresModel", name := "shared", desc := "(II)I" } : Jvm.MethodName) prog_8_method_47_code (5 : Nat) (Option.some Jvm.ClassFile.FieldType.int)) ∈ x_tb := x_i3 (i := 201) (by decide +kernel) (by decide +kernel)
theorem k682 : (Jvm.Cond.methodLink "ImageStoresLaw" (87 : Nat) ({ cls := "ImageStoresModel", name := "count", desc := "(I)I" } : Jvm.MethodName)) ∈ x_tb := x_i3 (i := 202) (by decide +kernel) (by decide +kernel)
theorem k683 : (Jvm.Cond.instanceMethod ({ cls := "ImageStoresModel", name := "count", desc := "(I)I" } : Jvm.MethodName)) ∈ x_tb := x_i3 (i := 203) (by decide +kernel) (by decide +kernel)
theorem k684 : (Jvm.Cond.selects "ImageStoresModel" ({ cls := "ImageStoresModel", name := "count", desc := "(I)I" } : Jvm.MethodName) ({ cls := "ImageStoresModel", name := "count", desc := "(I)I" } : Jvm.MethodName)) ∈ x_tb := x_i3 (i := 204) (by decide +kernel) (by decide +kernel)
theorem k685 : (Jvm.Cond.code ({ cls := "ImageStoresModel", name := "count", desc := "(I)I" } : Jvm.MethodName) prog_8_method_48_code (2 : Nat) (Option.some Jvm.ClassFile.FieldType.int)) ∈ x_tb := x_i3 (i := 205) (by decide +kernel) (by decide +kernel)
theorem kn686 : (Jvm.Cond.castable "ImageStores$Image" "ImageStores$Image") ∈ lw_tbl := List.mem_append_right _ (List.mem_append_right _ (List.mem_append_right _ (List.mem_of_getElem? (i := 206) (by decide +kernel))))
theorem kn687 : (Jvm.Cond.castable "ImageStores$Layer" "ImageStores$Layer") ∈ lw_tbl := List.mem_append_right _ (List.mem_append_right _ (List.mem_append_right _ (List.mem_of_getElem? (i := 207) (by decide +kernel))))
theorem kn688 : (Jvm.Cond.sameMethod "[Ljava/lang/Object;" "java/lang/Object" "getClass" "()Ljava/lang/Class;") ∈ lw_tbl := List.mem_append_right _ (List.mem_append_right _ (List.mem_append_right _ (List.mem_of_getElem? (i := 208) (by decide +kernel))))
theorem k689 : (Jvm.Cond.selects "[Ljava/lang/Object;" ({ cls := "java/lang/Object", name := "getClass", desc := "()Ljava/lang/Class;" } : Jvm.MethodName) ({ cls := "java/lang/Object", name := "getClass", desc := "()Ljava/lang/Class;" } : Jvm.MethodName)) ∈ x_tb := x_i3 (i := 209) (by decide +kernel) (by decide +kernel)
theorem kn690 : (Jvm.Cond.declares ({ cls := "java/lang/Object", name := "getClass", desc := "()Ljava/lang/Class;" } : Jvm.MethodName)) ∈ lw_tbl := List.mem_append_right _ (List.mem_append_right _ (List.mem_append_right _ (List.mem_of_getElem? (i := 210) (by decide +kernel))))
theorem kn691 : (Jvm.Cond.castable "ImageStores" "java/lang/Object") ∈ lw_tbl := List.mem_append_right _ (List.mem_append_right _ (List.mem_append_right _ (List.mem_of_getElem? (i := 211) (by decide +kernel))))
theorem kn692 : (Jvm.Cond.castable "ImageStores$Store" "java/lang/Object") ∈ lw_tbl := List.mem_append_right _ (List.mem_append_right _ (List.mem_append_right _ (List.mem_of_getElem? (i := 212) (by decide +kernel))))
theorem kn693 : (Jvm.Cond.castable "ImageStores$Tree" "java/lang/Object") ∈ lw_tbl := List.mem_append_right _ (List.mem_append_right _ (List.mem_append_right _ (List.mem_of_getElem? (i := 213) (by decide +kernel))))
theorem kn694 : (Jvm.Cond.castable "ImageStores$Image" "java/lang/Object") ∈ lw_tbl := List.mem_append_right _ (List.mem_append_right _ (List.mem_append_right _ (List.mem_of_getElem? (i := 214) (by decide +kernel))))
theorem kn695 : (Jvm.Cond.castable "ImageStoresModel" "java/lang/Object") ∈ lw_tbl := List.mem_append_right _ (List.mem_append_right _ (List.mem_append_right _ (List.mem_of_getElem? (i := 215) (by decide +kernel))))
theorem kn696 : (Jvm.Cond.castable "ImageStores$Layer" "java/lang/Object") ∈ lw_tbl := List.mem_append_right _ (List.mem_append_right _ (List.mem_append_right _ (List.mem_of_getElem? (i := 216) (by decide +kernel))))
theorem s_AL_add3 : Cond.selects "java/util/ArrayList" y_AL_add3 y_AL_add3 ∈ x_tb := x_is (q := (y_AL_add3, 3)) (List.mem_of_getElem? (i := 0) (by decide +kernel))
theorem s_AL_grow0 : Cond.selects "java/util/ArrayList" y_AL_grow0 y_AL_grow0 ∈ x_tb := x_is (q := (y_AL_grow0, 3)) (List.mem_of_getElem? (i := 1) (by decide +kernel))
theorem s_AL_growI : Cond.selects "java/util/ArrayList" y_AL_growI y_AL_growI ∈ x_tb := x_is (q := (y_AL_growI, 3)) (List.mem_of_getElem? (i := 2) (by decide +kernel))
theorem s_IS_isMade : Cond.selects "ImageStores" y_IS_isMade y_IS_isMade ∈ x_tb := x_is (q := (y_IS_isMade, 7)) (List.mem_of_getElem? (i := 3) (by decide +kernel))
theorem s_TR_writeFile : Cond.selects "ImageStores$Tree" y_TR_writeFile y_TR_writeFile ∈ x_tb := x_is (q := (y_TR_writeFile, 1)) (List.mem_of_getElem? (i := 4) (by decide +kernel))
theorem s_TR_liesBelowFile : Cond.selects "ImageStores$Tree" y_TR_liesBelowFile y_TR_liesBelowFile ∈ x_tb := x_is (q := (y_TR_liesBelowFile, 1)) (List.mem_of_getElem? (i := 5) (by decide +kernel))
theorem s_TR_isFile : Cond.selects "ImageStores$Tree" y_TR_isFile y_TR_isFile ∈ x_tb := x_is (q := (y_TR_isFile, 1)) (List.mem_of_getElem? (i := 6) (by decide +kernel))
theorem s_TR_makeAllAbove : Cond.selects "ImageStores$Tree" y_TR_makeAllAbove y_TR_makeAllAbove ∈ x_tb := x_is (q := (y_TR_makeAllAbove, 1)) (List.mem_of_getElem? (i := 7) (by decide +kernel))
theorem s_TR_makeDirectory : Cond.selects "ImageStores$Tree" y_TR_makeDirectory y_TR_makeDirectory ∈ x_tb := x_is (q := (y_TR_makeDirectory, 1)) (List.mem_of_getElem? (i := 8) (by decide +kernel))
theorem s_TR_removeAll : Cond.selects "ImageStores$Tree" y_TR_removeAll y_TR_removeAll ∈ x_tb := x_is (q := (y_TR_removeAll, 1)) (List.mem_of_getElem? (i := 9) (by decide +kernel))
theorem s_TR_copyAll : Cond.selects "ImageStores$Tree" y_TR_copyAll y_TR_copyAll ∈ x_tb := x_is (q := (y_TR_copyAll, 1)) (List.mem_of_getElem? (i := 10) (by decide +kernel))
theorem s_TR_mayCopy : Cond.selects "ImageStores$Tree" y_TR_mayCopy y_TR_mayCopy ∈ x_tb := x_is (q := (y_TR_mayCopy, 1)) (List.mem_of_getElem? (i := 11) (by decide +kernel))
theorem s_TR_fitsAt : Cond.selects "ImageStores$Tree" y_TR_fitsAt y_TR_fitsAt ∈ x_tb := x_is (q := (y_TR_fitsAt, 1)) (List.mem_of_getElem? (i := 12) (by decide +kernel))
theorem s_IS_answerDraftOn : Cond.selects "ImageStores" y_IS_answerDraftOn y_IS_answerDraftOn ∈ x_tb := x_is (q := (y_IS_answerDraftOn, 7)) (List.mem_of_getElem? (i := 13) (by decide +kernel))
theorem s_IS_answerHeld : Cond.selects "ImageStores" y_IS_answerHeld y_IS_answerHeld ∈ x_tb := x_is (q := (y_IS_answerHeld, 7)) (List.mem_of_getElem? (i := 14) (by decide +kernel))
theorem s_IS_newImageOn : Cond.selects "ImageStores" y_IS_newImageOn y_IS_newImageOn ∈ x_tb := x_is (q := (y_IS_newImageOn, 7)) (List.mem_of_getElem? (i := 15) (by decide +kernel))
theorem s_IS_numberOfLayer : Cond.selects "ImageStores" y_IS_numberOfLayer y_IS_numberOfLayer ∈ x_tb := x_is (q := (y_IS_numberOfLayer, 7)) (List.mem_of_getElem? (i := 16) (by decide +kernel))
theorem s_IS_storeOf : Cond.selects "ImageStores" y_IS_storeOf y_IS_storeOf ∈ x_tb := x_is (q := (y_IS_storeOf, 7)) (List.mem_of_getElem? (i := 17) (by decide +kernel))
theorem s_IS_namesImage : Cond.selects "ImageStores" y_IS_namesImage y_IS_namesImage ∈ x_tb := x_is (q := (y_IS_namesImage, 7)) (List.mem_of_getElem? (i := 18) (by decide +kernel))
theorem s_IS_layersIn : Cond.selects "ImageStores" y_IS_layersIn y_IS_layersIn ∈ x_tb := x_is (q := (y_IS_layersIn, 7)) (List.mem_of_getElem? (i := 19) (by decide +kernel))
theorem s_IS_seeLayersOf : Cond.selects "ImageStores" y_IS_seeLayersOf y_IS_seeLayersOf ∈ x_tb := x_is (q := (y_IS_seeLayersOf, 7)) (List.mem_of_getElem? (i := 20) (by decide +kernel))
theorem s_IS_hasLayer : Cond.selects "ImageStores" y_IS_hasLayer y_IS_hasLayer ∈ x_tb := x_is (q := (y_IS_hasLayer, 7)) (List.mem_of_getElem? (i := 21) (by decide +kernel))
theorem s_IS_layerOf : Cond.selects "ImageStores" y_IS_layerOf y_IS_layerOf ∈ x_tb := x_is (q := (y_IS_layerOf, 7)) (List.mem_of_getElem? (i := 22) (by decide +kernel))
theorem s_IS_hasEntry : Cond.selects "ImageStores" y_IS_hasEntry y_IS_hasEntry ∈ x_tb := x_is (q := (y_IS_hasEntry, 7)) (List.mem_of_getElem? (i := 23) (by decide +kernel))
theorem s_IS_entriesIn : Cond.selects "ImageStores" y_IS_entriesIn y_IS_entriesIn ∈ x_tb := x_is (q := (y_IS_entriesIn, 7)) (List.mem_of_getElem? (i := 24) (by decide +kernel))
theorem s_MO_holding : Cond.selects "ImageStoresModel" y_MO_holding y_MO_holding ∈ x_tb := x_is (q := (y_MO_holding, 8)) (List.mem_of_getElem? (i := 25) (by decide +kernel))
theorem s_MO_is : Cond.selects "ImageStoresModel" y_MO_is y_MO_is ∈ x_tb := x_is (q := (y_MO_is, 8)) (List.mem_of_getElem? (i := 26) (by decide +kernel))
theorem s_MO_load : Cond.selects "ImageStoresModel" y_MO_load y_MO_load ∈ x_tb := x_is (q := (y_MO_load, 8)) (List.mem_of_getElem? (i := 27) (by decide +kernel))
theorem s_MO_change : Cond.selects "ImageStoresModel" y_MO_change y_MO_change ∈ x_tb := x_is (q := (y_MO_change, 8)) (List.mem_of_getElem? (i := 28) (by decide +kernel))
theorem s_MO_underFile : Cond.selects "ImageStoresModel" y_MO_underFile y_MO_underFile ∈ x_tb := x_is (q := (y_MO_underFile, 8)) (List.mem_of_getElem? (i := 29) (by decide +kernel))
theorem s_MO_raise : Cond.selects "ImageStoresModel" y_MO_raise y_MO_raise ∈ x_tb := x_is (q := (y_MO_raise, 8)) (List.mem_of_getElem? (i := 30) (by decide +kernel))
theorem s_MO_wipe : Cond.selects "ImageStoresModel" y_MO_wipe y_MO_wipe ∈ x_tb := x_is (q := (y_MO_wipe, 8)) (List.mem_of_getElem? (i := 31) (by decide +kernel))
theorem s_MO_copy : Cond.selects "ImageStoresModel" y_MO_copy y_MO_copy ∈ x_tb := x_is (q := (y_MO_copy, 8)) (List.mem_of_getElem? (i := 32) (by decide +kernel))
theorem s_MO_image : Cond.selects "ImageStoresModel" y_MO_image y_MO_image ∈ x_tb := x_is (q := (y_MO_image, 8)) (List.mem_of_getElem? (i := 33) (by decide +kernel))
theorem s_MO_workIs : Cond.selects "ImageStoresModel" y_MO_workIs y_MO_workIs ∈ x_tb := x_is (q := (y_MO_workIs, 8)) (List.mem_of_getElem? (i := 34) (by decide +kernel))
theorem s_MO_answer : Cond.selects "ImageStoresModel" y_MO_answer y_MO_answer ∈ x_tb := x_is (q := (y_MO_answer, 8)) (List.mem_of_getElem? (i := 35) (by decide +kernel))
theorem s_MO_chooseHeld : Cond.selects "ImageStoresModel" y_MO_chooseHeld y_MO_chooseHeld ∈ x_tb := x_is (q := (y_MO_chooseHeld, 8)) (List.mem_of_getElem? (i := 36) (by decide +kernel))
theorem s_MO_chooseNone : Cond.selects "ImageStoresModel" y_MO_chooseNone y_MO_chooseNone ∈ x_tb := x_is (q := (y_MO_chooseNone, 8)) (List.mem_of_getElem? (i := 37) (by decide +kernel))
theorem s_MO_choose : Cond.selects "ImageStoresModel" y_MO_choose y_MO_choose ∈ x_tb := x_is (q := (y_MO_choose, 8)) (List.mem_of_getElem? (i := 38) (by decide +kernel))
theorem s_MO_different : Cond.selects "ImageStoresModel" y_MO_different y_MO_different ∈ x_tb := x_is (q := (y_MO_different, 8)) (List.mem_of_getElem? (i := 39) (by decide +kernel))
theorem s_MO_there : Cond.selects "ImageStoresModel" y_MO_there y_MO_there ∈ x_tb := x_is (q := (y_MO_there, 8)) (List.mem_of_getElem? (i := 40) (by decide +kernel))
theorem s_MO_same : Cond.selects "ImageStoresModel" y_MO_same y_MO_same ∈ x_tb := x_is (q := (y_MO_same, 8)) (List.mem_of_getElem? (i := 41) (by decide +kernel))
theorem s_MO_mark : Cond.selects "ImageStoresModel" y_MO_mark y_MO_mark ∈ x_tb := x_is (q := (y_MO_mark, 8)) (List.mem_of_getElem? (i := 42) (by decide +kernel))
theorem s_MO_size : Cond.selects "ImageStoresModel" y_MO_size y_MO_size ∈ x_tb := x_is (q := (y_MO_size, 8)) (List.mem_of_getElem? (i := 43) (by decide +kernel))
theorem s_MO_layerCount : Cond.selects "ImageStoresModel" y_MO_layerCount y_MO_layerCount ∈ x_tb := x_is (q := (y_MO_layerCount, 8)) (List.mem_of_getElem? (i := 44) (by decide +kernel))
theorem s_MO_owner : Cond.selects "ImageStoresModel" y_MO_owner y_MO_owner ∈ x_tb := x_is (q := (y_MO_owner, 8)) (List.mem_of_getElem? (i := 45) (by decide +kernel))
theorem i_AL : ∀ w ∈ u_ws "java/util/ArrayList" F_AL 3, w ∈ x_tb := by
  intro w hw
  obtain ⟨k, hk, rfl⟩ := List.mem_map.mp hw
  have hk := List.mem_range.mp hk
  match k, hk with
  | 0, _ => exact k48
  | 1, _ => exact k44
  | 2, _ => exact k46
  | k + 3, h => exact absurd h (by omega)
theorem i_IM : ∀ w ∈ u_ws "ImageStores$Image" F_IM 3, w ∈ x_tb := by
  intro w hw
  obtain ⟨k, hk, rfl⟩ := List.mem_map.mp hw
  have hk := List.mem_range.mp hk
  match k, hk with
  | 0, _ => exact k97
  | 1, _ => exact k99
  | 2, _ => exact k101
  | k + 3, h => exact absurd h (by omega)
theorem i_LY : ∀ w ∈ u_ws "ImageStores$Layer" F_LY 2, w ∈ x_tb := by
  intro w hw
  obtain ⟨k, hk, rfl⟩ := List.mem_map.mp hw
  have hk := List.mem_range.mp hk
  match k, hk with
  | 0, _ => exact k325
  | 1, _ => exact k327
  | k + 2, h => exact absurd h (by omega)
theorem i_ST : ∀ w ∈ u_ws "ImageStores$Store" F_ST 2, w ∈ x_tb := by
  intro w hw
  obtain ⟨k, hk, rfl⟩ := List.mem_map.mp hw
  have hk := List.mem_range.mp hk
  match k, hk with
  | 0, _ => exact k62
  | 1, _ => exact k64
  | k + 2, h => exact absurd h (by omega)
theorem i_TR : ∀ w ∈ u_ws "ImageStores$Tree" F_TR 1, w ∈ x_tb := by
  intro w hw
  obtain ⟨k, hk, rfl⟩ := List.mem_map.mp hw
  have hk := List.mem_range.mp hk
  match k, hk with
  | 0, _ => exact k81
  | k + 1, h => exact absurd h (by omega)
theorem i_IS : ∀ w ∈ u_ws "ImageStores" F_IS 7, w ∈ x_tb := by
  intro w hw
  obtain ⟨k, hk, rfl⟩ := List.mem_map.mp hw
  have hk := List.mem_range.mp hk
  match k, hk with
  | 0, _ => exact k165
  | 1, _ => exact k167
  | 2, _ => exact k169
  | 3, _ => exact k171
  | 4, _ => exact k173
  | 5, _ => exact k175
  | 6, _ => exact k177
  | k + 7, h => exact absurd h (by omega)
theorem i_MO : ∀ w ∈ u_ws "ImageStoresModel" F_MO 8, w ∈ x_tb := by
  intro w hw
  obtain ⟨k, hk, rfl⟩ := List.mem_map.mp hw
  have hk := List.mem_range.mp hk
  match k, hk with
  | 0, _ => exact k487
  | 1, _ => exact k489
  | 2, _ => exact k491
  | 3, _ => exact k493
  | 4, _ => exact k495
  | 5, _ => exact k497
  | 6, _ => exact k499
  | 7, _ => exact k501
  | k + 8, h => exact absurd h (by omega)
end
section
theorem d_IS_init_0 : decode b_IS_init 0 = .ok (.aload_n 0, 1) := by decide +kernel
theorem d_IS_init_1 : decode b_IS_init 1 = .ok (.invokespecial 1, 3) := by decide +kernel
theorem d_IS_init_4 : decode b_IS_init 4 = .ok (.aload_n 0, 1) := by decide +kernel
theorem d_IS_init_5 : decode b_IS_init 5 = .ok (.new 7, 3) := by decide +kernel
theorem d_IS_init_8 : decode b_IS_init 8 = .ok (.dup, 1) := by decide +kernel
theorem d_IS_init_9 : decode b_IS_init 9 = .ok (.invokespecial 9, 3) := by decide +kernel
theorem d_IS_init_12 : decode b_IS_init 12 = .ok (.putfield 10, 3) := by decide +kernel
theorem d_IS_init_15 : decode b_IS_init 15 = .ok (.aload_n 0, 1) := by decide +kernel
theorem d_IS_init_16 : decode b_IS_init 16 = .ok (.new 7, 3) := by decide +kernel
theorem d_IS_init_19 : decode b_IS_init 19 = .ok (.dup, 1) := by decide +kernel
theorem d_IS_init_20 : decode b_IS_init 20 = .ok (.invokespecial 9, 3) := by decide +kernel
theorem d_IS_init_23 : decode b_IS_init 23 = .ok (.putfield 16, 3) := by decide +kernel
theorem d_IS_init_26 : decode b_IS_init 26 = .ok (.aload_n 0, 1) := by decide +kernel
theorem d_IS_init_27 : decode b_IS_init 27 = .ok (.new 19, 3) := by decide +kernel
theorem d_IS_init_30 : decode b_IS_init 30 = .ok (.dup, 1) := by decide +kernel
theorem d_IS_init_31 : decode b_IS_init 31 = .ok (.invokespecial 21, 3) := by decide +kernel
theorem d_IS_init_34 : decode b_IS_init 34 = .ok (.putfield 22, 3) := by decide +kernel
theorem d_IS_init_37 : decode b_IS_init 37 = .ok (.aload_n 0, 1) := by decide +kernel
theorem d_IS_init_38 : decode b_IS_init 38 = .ok (.new 19, 3) := by decide +kernel
theorem d_IS_init_41 : decode b_IS_init 41 = .ok (.dup, 1) := by decide +kernel
theorem d_IS_init_42 : decode b_IS_init 42 = .ok (.invokespecial 21, 3) := by decide +kernel
theorem d_IS_init_45 : decode b_IS_init 45 = .ok (.putfield 26, 3) := by decide +kernel
theorem d_IS_init_48 : decode b_IS_init 48 = .ok (.aload_n 0, 1) := by decide +kernel
theorem d_IS_init_49 : decode b_IS_init 49 = .ok (.new 29, 3) := by decide +kernel
theorem d_IS_init_52 : decode b_IS_init 52 = .ok (.dup, 1) := by decide +kernel
theorem d_IS_init_53 : decode b_IS_init 53 = .ok (.invokespecial 31, 3) := by decide +kernel
theorem d_IS_init_56 : decode b_IS_init 56 = .ok (.putfield 32, 3) := by decide +kernel
theorem d_IS_init_59 : decode b_IS_init 59 = .ok (.aload_n 0, 1) := by decide +kernel
theorem d_IS_init_60 : decode b_IS_init 60 = .ok (.bipush 40, 2) := by decide +kernel
theorem d_IS_init_62 : decode b_IS_init 62 = .ok (.newarray .boolean, 2) := by decide +kernel
theorem d_IS_init_64 : decode b_IS_init 64 = .ok (.putfield 36, 3) := by decide +kernel
theorem d_IS_init_67 : decode b_IS_init 67 = .ok (.aload_n 0, 1) := by decide +kernel
theorem d_IS_init_68 : decode b_IS_init 68 = .ok (.iconst 0, 1) := by decide +kernel
theorem d_IS_init_69 : decode b_IS_init 69 = .ok (.putfield 40, 3) := by decide +kernel
theorem d_IS_init_72 : decode b_IS_init 72 = .ok (.aload_n 0, 1) := by decide +kernel
theorem d_IS_init_73 : decode b_IS_init 73 = .ok (.getfield 10, 3) := by decide +kernel
theorem d_IS_init_76 : decode b_IS_init 76 = .ok (.new 44, 3) := by decide +kernel
theorem d_IS_init_79 : decode b_IS_init 79 = .ok (.dup, 1) := by decide +kernel
theorem d_IS_init_80 : decode b_IS_init 80 = .ok (.iconst (-1), 1) := by decide +kernel
theorem d_IS_init_81 : decode b_IS_init 81 = .ok (.new 29, 3) := by decide +kernel
theorem d_IS_init_84 : decode b_IS_init 84 = .ok (.dup, 1) := by decide +kernel
theorem d_IS_init_85 : decode b_IS_init 85 = .ok (.invokespecial 31, 3) := by decide +kernel
theorem d_IS_init_88 : decode b_IS_init 88 = .ok (.iconst 0, 1) := by decide +kernel
theorem d_IS_init_89 : decode b_IS_init 89 = .ok (.newarray .int, 2) := by decide +kernel
theorem d_IS_init_91 : decode b_IS_init 91 = .ok (.invokespecial 46, 3) := by decide +kernel
theorem d_IS_init_94 : decode b_IS_init 94 = .ok (.invokevirtual 49, 3) := by decide +kernel
theorem d_IS_init_97 : decode b_IS_init 97 = .ok (.pop, 1) := by decide +kernel
theorem d_IS_init_98 : decode b_IS_init 98 = .ok (.return_, 1) := by decide +kernel
theorem d_AL_init_0 : decode b_AL_init 0 = .ok (.aload_n 0, 1) := by decide +kernel
theorem d_AL_init_1 : decode b_AL_init 1 = .ok (.invokespecial 1, 3) := by decide +kernel
theorem d_AL_init_4 : decode b_AL_init 4 = .ok (.aload_n 0, 1) := by decide +kernel
theorem d_AL_init_5 : decode b_AL_init 5 = .ok (.getstatic 39, 3) := by decide +kernel
theorem d_AL_init_8 : decode b_AL_init 8 = .ok (.putfield 9, 3) := by decide +kernel
theorem d_AL_init_11 : decode b_AL_init 11 = .ok (.return_, 1) := by decide +kernel
theorem d_AB_init_0 : decode b_AB_init 0 = .ok (.aload_n 0, 1) := by decide +kernel
theorem d_AB_init_1 : decode b_AB_init 1 = .ok (.invokespecial 1, 3) := by decide +kernel
theorem d_AB_init_4 : decode b_AB_init 4 = .ok (.aload_n 0, 1) := by decide +kernel
theorem d_AB_init_5 : decode b_AB_init 5 = .ok (.iconst 0, 1) := by decide +kernel
theorem d_AB_init_6 : decode b_AB_init 6 = .ok (.putfield 7, 3) := by decide +kernel
theorem d_AB_init_9 : decode b_AB_init 9 = .ok (.return_, 1) := by decide +kernel
theorem d_AC_init_0 : decode b_AC_init 0 = .ok (.aload_n 0, 1) := by decide +kernel
theorem d_AC_init_1 : decode b_AC_init 1 = .ok (.invokespecial 1, 3) := by decide +kernel
theorem d_AC_init_4 : decode b_AC_init 4 = .ok (.return_, 1) := by decide +kernel
theorem d_ST_init_0 : decode b_ST_init 0 = .ok (.aload_n 0, 1) := by decide +kernel
theorem d_ST_init_1 : decode b_ST_init 1 = .ok (.invokespecial 3, 3) := by decide +kernel
theorem d_ST_init_4 : decode b_ST_init 4 = .ok (.aload_n 0, 1) := by decide +kernel
theorem d_ST_init_5 : decode b_ST_init 5 = .ok (.bipush 40, 2) := by decide +kernel
theorem d_ST_init_7 : decode b_ST_init 7 = .ok (.newarray .boolean, 2) := by decide +kernel
theorem d_ST_init_9 : decode b_ST_init 9 = .ok (.putfield 9, 3) := by decide +kernel
theorem d_ST_init_12 : decode b_ST_init 12 = .ok (.aload_n 0, 1) := by decide +kernel
theorem d_ST_init_13 : decode b_ST_init 13 = .ok (.getfield 9, 3) := by decide +kernel
theorem d_ST_init_16 : decode b_ST_init 16 = .ok (.iconst 0, 1) := by decide +kernel
theorem d_ST_init_17 : decode b_ST_init 17 = .ok (.iconst 1, 1) := by decide +kernel
theorem d_ST_init_18 : decode b_ST_init 18 = .ok (.bastore, 1) := by decide +kernel
theorem d_ST_init_19 : decode b_ST_init 19 = .ok (.aload_n 0, 1) := by decide +kernel
theorem d_ST_init_20 : decode b_ST_init 20 = .ok (.bipush 6, 2) := by decide +kernel
theorem d_ST_init_22 : decode b_ST_init 22 = .ok (.newarray .int, 2) := by decide +kernel
theorem d_ST_init_24 : decode b_ST_init 24 = .ok (.putfield 15, 3) := by decide +kernel
theorem d_ST_init_27 : decode b_ST_init 27 = .ok (.aload_n 0, 1) := by decide +kernel
theorem d_ST_init_28 : decode b_ST_init 28 = .ok (.getfield 15, 3) := by decide +kernel
theorem d_ST_init_31 : decode b_ST_init 31 = .ok (.bipush 40, 2) := by decide +kernel
theorem d_ST_init_33 : decode b_ST_init 33 = .ok (.invokestatic 19, 3) := by decide +kernel
theorem d_ST_init_36 : decode b_ST_init 36 = .ok (.return_, 1) := by decide +kernel
theorem d_AR_fillI_0 : decode b_AR_fillI 0 = .ok (.iconst 0, 1) := by decide +kernel
theorem d_AR_fillI_1 : decode b_AR_fillI 1 = .ok (.istore_n 2, 1) := by decide +kernel
theorem d_AR_fillI_2 : decode b_AR_fillI 2 = .ok (.aload_n 0, 1) := by decide +kernel
theorem d_AR_fillI_3 : decode b_AR_fillI 3 = .ok (.arraylength, 1) := by decide +kernel
theorem d_AR_fillI_4 : decode b_AR_fillI 4 = .ok (.istore_n 3, 1) := by decide +kernel
theorem d_AR_fillI_5 : decode b_AR_fillI 5 = .ok (.iload_n 2, 1) := by decide +kernel
theorem d_AR_fillI_6 : decode b_AR_fillI 6 = .ok (.iload_n 3, 1) := by decide +kernel
theorem d_AR_fillI_7 : decode b_AR_fillI 7 = .ok (.if_icmp .ge 13, 3) := by decide +kernel
theorem d_AR_fillI_10 : decode b_AR_fillI 10 = .ok (.aload_n 0, 1) := by decide +kernel
theorem d_AR_fillI_11 : decode b_AR_fillI 11 = .ok (.iload_n 2, 1) := by decide +kernel
theorem d_AR_fillI_12 : decode b_AR_fillI 12 = .ok (.iload_n 1, 1) := by decide +kernel
theorem d_AR_fillI_13 : decode b_AR_fillI 13 = .ok (.iastore, 1) := by decide +kernel
theorem d_AR_fillI_14 : decode b_AR_fillI 14 = .ok (.iinc 2 1, 3) := by decide +kernel
theorem d_AR_fillI_17 : decode b_AR_fillI 17 = .ok (.goto (-12), 3) := by decide +kernel
theorem d_AR_fillI_20 : decode b_AR_fillI 20 = .ok (.return_, 1) := by decide +kernel
theorem d_TR_init_0 : decode b_TR_init 0 = .ok (.aload_n 0, 1) := by decide +kernel
theorem d_TR_init_1 : decode b_TR_init 1 = .ok (.invokespecial 3, 3) := by decide +kernel
theorem d_TR_init_4 : decode b_TR_init 4 = .ok (.aload_n 0, 1) := by decide +kernel
theorem d_TR_init_5 : decode b_TR_init 5 = .ok (.bipush 125, 2) := by decide +kernel
theorem d_TR_init_7 : decode b_TR_init 7 = .ok (.newarray .long, 2) := by decide +kernel
theorem d_TR_init_9 : decode b_TR_init 9 = .ok (.putfield 9, 3) := by decide +kernel
theorem d_TR_init_12 : decode b_TR_init 12 = .ok (.aload_n 0, 1) := by decide +kernel
theorem d_TR_init_13 : decode b_TR_init 13 = .ok (.getfield 9, 3) := by decide +kernel
theorem d_TR_init_16 : decode b_TR_init 16 = .ok (.ldc2_w 15, 3) := by decide +kernel
theorem d_TR_init_19 : decode b_TR_init 19 = .ok (.invokestatic 17, 3) := by decide +kernel
theorem d_TR_init_22 : decode b_TR_init 22 = .ok (.aload_n 0, 1) := by decide +kernel
theorem d_TR_init_23 : decode b_TR_init 23 = .ok (.getfield 9, 3) := by decide +kernel
theorem d_TR_init_26 : decode b_TR_init 26 = .ok (.iconst 0, 1) := by decide +kernel
theorem d_TR_init_27 : decode b_TR_init 27 = .ok (.ldc2_w 23, 3) := by decide +kernel
theorem d_TR_init_30 : decode b_TR_init 30 = .ok (.lastore, 1) := by decide +kernel
theorem d_TR_init_31 : decode b_TR_init 31 = .ok (.return_, 1) := by decide +kernel
theorem d_AR_fillJ_0 : decode b_AR_fillJ 0 = .ok (.iconst 0, 1) := by decide +kernel
theorem d_AR_fillJ_1 : decode b_AR_fillJ 1 = .ok (.istore_n 3, 1) := by decide +kernel
theorem d_AR_fillJ_2 : decode b_AR_fillJ 2 = .ok (.aload_n 0, 1) := by decide +kernel
theorem d_AR_fillJ_3 : decode b_AR_fillJ 3 = .ok (.arraylength, 1) := by decide +kernel
theorem d_AR_fillJ_4 : decode b_AR_fillJ 4 = .ok (.istore 4, 2) := by decide +kernel
theorem d_AR_fillJ_6 : decode b_AR_fillJ 6 = .ok (.iload_n 3, 1) := by decide +kernel
theorem d_AR_fillJ_7 : decode b_AR_fillJ 7 = .ok (.iload 4, 2) := by decide +kernel
theorem d_AR_fillJ_9 : decode b_AR_fillJ 9 = .ok (.if_icmp .ge 13, 3) := by decide +kernel
theorem d_AR_fillJ_12 : decode b_AR_fillJ 12 = .ok (.aload_n 0, 1) := by decide +kernel
theorem d_AR_fillJ_13 : decode b_AR_fillJ 13 = .ok (.iload_n 3, 1) := by decide +kernel
theorem d_AR_fillJ_14 : decode b_AR_fillJ 14 = .ok (.lload_n 1, 1) := by decide +kernel
theorem d_AR_fillJ_15 : decode b_AR_fillJ 15 = .ok (.lastore, 1) := by decide +kernel
theorem d_AR_fillJ_16 : decode b_AR_fillJ 16 = .ok (.iinc 3 1, 3) := by decide +kernel
theorem d_AR_fillJ_19 : decode b_AR_fillJ 19 = .ok (.goto (-13), 3) := by decide +kernel
theorem d_AR_fillJ_22 : decode b_AR_fillJ 22 = .ok (.return_, 1) := by decide +kernel
theorem d_IM_init_0 : decode b_IM_init 0 = .ok (.aload_n 0, 1) := by decide +kernel
theorem d_IM_init_1 : decode b_IM_init 1 = .ok (.invokespecial 1, 3) := by decide +kernel
theorem d_IM_init_4 : decode b_IM_init 4 = .ok (.aload_n 0, 1) := by decide +kernel
theorem d_IM_init_5 : decode b_IM_init 5 = .ok (.iload_n 1, 1) := by decide +kernel
theorem d_IM_init_6 : decode b_IM_init 6 = .ok (.putfield 7, 3) := by decide +kernel
theorem d_IM_init_9 : decode b_IM_init 9 = .ok (.aload_n 0, 1) := by decide +kernel
theorem d_IM_init_10 : decode b_IM_init 10 = .ok (.aload_n 2, 1) := by decide +kernel
theorem d_IM_init_11 : decode b_IM_init 11 = .ok (.putfield 13, 3) := by decide +kernel
theorem d_IM_init_14 : decode b_IM_init 14 = .ok (.aload_n 0, 1) := by decide +kernel
theorem d_IM_init_15 : decode b_IM_init 15 = .ok (.aload_n 3, 1) := by decide +kernel
theorem d_IM_init_16 : decode b_IM_init 16 = .ok (.putfield 17, 3) := by decide +kernel
theorem d_IM_init_19 : decode b_IM_init 19 = .ok (.return_, 1) := by decide +kernel
theorem d_AL_add1_0 : decode b_AL_add1 0 = .ok (.aload_n 0, 1) := by decide +kernel
theorem d_AL_add1_1 : decode b_AL_add1 1 = .ok (.dup, 1) := by decide +kernel
theorem d_AL_add1_2 : decode b_AL_add1 2 = .ok (.getfield 63, 3) := by decide +kernel
theorem d_AL_add1_5 : decode b_AL_add1 5 = .ok (.iconst 1, 1) := by decide +kernel
theorem d_AL_add1_6 : decode b_AL_add1 6 = .ok (.iadd, 1) := by decide +kernel
theorem d_AL_add1_7 : decode b_AL_add1 7 = .ok (.putfield 63, 3) := by decide +kernel
theorem d_AL_add1_10 : decode b_AL_add1 10 = .ok (.aload_n 0, 1) := by decide +kernel
theorem d_AL_add1_11 : decode b_AL_add1 11 = .ok (.aload_n 1, 1) := by decide +kernel
theorem d_AL_add1_12 : decode b_AL_add1 12 = .ok (.aload_n 0, 1) := by decide +kernel
theorem d_AL_add1_13 : decode b_AL_add1 13 = .ok (.getfield 9, 3) := by decide +kernel
theorem d_AL_add1_16 : decode b_AL_add1 16 = .ok (.aload_n 0, 1) := by decide +kernel
theorem d_AL_add1_17 : decode b_AL_add1 17 = .ok (.getfield 48, 3) := by decide +kernel
theorem d_AL_add1_20 : decode b_AL_add1 20 = .ok (.invokevirtual 131, 3) := by decide +kernel
theorem d_AL_add1_23 : decode b_AL_add1 23 = .ok (.iconst 1, 1) := by decide +kernel
theorem d_AL_add1_24 : decode b_AL_add1 24 = .ok (.ireturn, 1) := by decide +kernel
theorem d_AL_add3_0 : decode b_AL_add3 0 = .ok (.iload_n 3, 1) := by decide +kernel
theorem d_AL_add3_1 : decode b_AL_add3 1 = .ok (.aload_n 2, 1) := by decide +kernel
theorem d_AL_add3_2 : decode b_AL_add3 2 = .ok (.arraylength, 1) := by decide +kernel
theorem d_AL_add3_3 : decode b_AL_add3 3 = .ok (.if_icmp .ne 8, 3) := by decide +kernel
theorem d_AL_add3_6 : decode b_AL_add3 6 = .ok (.aload_n 0, 1) := by decide +kernel
theorem d_AL_add3_7 : decode b_AL_add3 7 = .ok (.invokevirtual 129, 3) := by decide +kernel
theorem d_AL_add3_10 : decode b_AL_add3 10 = .ok (.astore_n 2, 1) := by decide +kernel
theorem d_AL_add3_11 : decode b_AL_add3 11 = .ok (.aload_n 2, 1) := by decide +kernel
theorem d_AL_add3_12 : decode b_AL_add3 12 = .ok (.iload_n 3, 1) := by decide +kernel
theorem d_AL_add3_13 : decode b_AL_add3 13 = .ok (.aload_n 1, 1) := by decide +kernel
theorem d_AL_add3_14 : decode b_AL_add3 14 = .ok (.aastore, 1) := by decide +kernel
theorem d_AL_add3_15 : decode b_AL_add3 15 = .ok (.aload_n 0, 1) := by decide +kernel
theorem d_AL_add3_16 : decode b_AL_add3 16 = .ok (.iload_n 3, 1) := by decide +kernel
theorem d_AL_add3_17 : decode b_AL_add3 17 = .ok (.iconst 1, 1) := by decide +kernel
theorem d_AL_add3_18 : decode b_AL_add3 18 = .ok (.iadd, 1) := by decide +kernel
theorem d_AL_add3_19 : decode b_AL_add3 19 = .ok (.putfield 48, 3) := by decide +kernel
theorem d_AL_add3_22 : decode b_AL_add3 22 = .ok (.return_, 1) := by decide +kernel
theorem d_AL_grow0_0 : decode b_AL_grow0 0 = .ok (.aload_n 0, 1) := by decide +kernel
theorem d_AL_grow0_1 : decode b_AL_grow0 1 = .ok (.aload_n 0, 1) := by decide +kernel
theorem d_AL_grow0_2 : decode b_AL_grow0 2 = .ok (.getfield 48, 3) := by decide +kernel
theorem d_AL_grow0_5 : decode b_AL_grow0 5 = .ok (.iconst 1, 1) := by decide +kernel
theorem d_AL_grow0_6 : decode b_AL_grow0 6 = .ok (.iadd, 1) := by decide +kernel
theorem d_AL_grow0_7 : decode b_AL_grow0 7 = .ok (.invokevirtual 69, 3) := by decide +kernel
theorem d_AL_grow0_10 : decode b_AL_grow0 10 = .ok (.areturn, 1) := by decide +kernel
theorem d_AL_growI_0 : decode b_AL_growI 0 = .ok (.aload_n 0, 1) := by decide +kernel
theorem d_AL_growI_1 : decode b_AL_growI 1 = .ok (.getfield 9, 3) := by decide +kernel
theorem d_AL_growI_4 : decode b_AL_growI 4 = .ok (.arraylength, 1) := by decide +kernel
theorem d_AL_growI_5 : decode b_AL_growI 5 = .ok (.istore_n 2, 1) := by decide +kernel
theorem d_AL_growI_6 : decode b_AL_growI 6 = .ok (.iload_n 2, 1) := by decide +kernel
theorem d_AL_growI_7 : decode b_AL_growI 7 = .ok (.ifCond .gt 13, 3) := by decide +kernel
theorem d_AL_growI_10 : decode b_AL_growI 10 = .ok (.aload_n 0, 1) := by decide +kernel
theorem d_AL_growI_11 : decode b_AL_growI 11 = .ok (.getfield 9, 3) := by decide +kernel
theorem d_AL_growI_14 : decode b_AL_growI 14 = .ok (.getstatic 39, 3) := by decide +kernel
theorem d_AL_growI_17 : decode b_AL_growI 17 = .ok (.if_acmp .eq 28, 3) := by decide +kernel
theorem d_AL_growI_20 : decode b_AL_growI 20 = .ok (.iload_n 2, 1) := by decide +kernel
theorem d_AL_growI_21 : decode b_AL_growI 21 = .ok (.iload_n 1, 1) := by decide +kernel
theorem d_AL_growI_22 : decode b_AL_growI 22 = .ok (.iload_n 2, 1) := by decide +kernel
theorem d_AL_growI_23 : decode b_AL_growI 23 = .ok (.isub, 1) := by decide +kernel
theorem d_AL_growI_24 : decode b_AL_growI 24 = .ok (.iload_n 2, 1) := by decide +kernel
theorem d_AL_growI_25 : decode b_AL_growI 25 = .ok (.iconst 1, 1) := by decide +kernel
theorem d_AL_growI_26 : decode b_AL_growI 26 = .ok (.ishr, 1) := by decide +kernel
theorem d_AL_growI_27 : decode b_AL_growI 27 = .ok (.invokestatic 73, 3) := by decide +kernel
theorem d_AL_growI_30 : decode b_AL_growI 30 = .ok (.istore_n 3, 1) := by decide +kernel
theorem d_AL_growI_31 : decode b_AL_growI 31 = .ok (.aload_n 0, 1) := by decide +kernel
theorem d_AL_growI_32 : decode b_AL_growI 32 = .ok (.aload_n 0, 1) := by decide +kernel
theorem d_AL_growI_33 : decode b_AL_growI 33 = .ok (.getfield 9, 3) := by decide +kernel
theorem d_AL_growI_36 : decode b_AL_growI 36 = .ok (.iload_n 3, 1) := by decide +kernel
theorem d_AL_growI_37 : decode b_AL_growI 37 = .ok (.invokestatic 66, 3) := by decide +kernel
theorem d_AL_growI_40 : decode b_AL_growI 40 = .ok (.dup_x1, 1) := by decide +kernel
theorem d_AL_growI_41 : decode b_AL_growI 41 = .ok (.putfield 9, 3) := by decide +kernel
theorem d_AL_growI_44 : decode b_AL_growI 44 = .ok (.areturn, 1) := by decide +kernel
theorem d_AL_growI_45 : decode b_AL_growI 45 = .ok (.aload_n 0, 1) := by decide +kernel
theorem d_AL_growI_46 : decode b_AL_growI 46 = .ok (.bipush 10, 2) := by decide +kernel
theorem d_AL_growI_48 : decode b_AL_growI 48 = .ok (.iload_n 1, 1) := by decide +kernel
theorem d_AL_growI_49 : decode b_AL_growI 49 = .ok (.invokestatic 79, 3) := by decide +kernel
theorem d_AL_growI_52 : decode b_AL_growI 52 = .ok (.anewarray 7, 3) := by decide +kernel
theorem d_AL_growI_55 : decode b_AL_growI 55 = .ok (.dup_x1, 1) := by decide +kernel
theorem d_AL_growI_56 : decode b_AL_growI 56 = .ok (.putfield 9, 3) := by decide +kernel
theorem d_AL_growI_59 : decode b_AL_growI 59 = .ok (.areturn, 1) := by decide +kernel
theorem d_SU_newLength_0 : decode b_SU_newLength 0 = .ok (.iload_n 0, 1) := by decide +kernel
theorem d_SU_newLength_1 : decode b_SU_newLength 1 = .ok (.iload_n 1, 1) := by decide +kernel
theorem d_SU_newLength_2 : decode b_SU_newLength 2 = .ok (.iload_n 2, 1) := by decide +kernel
theorem d_SU_newLength_3 : decode b_SU_newLength 3 = .ok (.invokestatic 194, 3) := by decide +kernel
theorem d_SU_newLength_6 : decode b_SU_newLength 6 = .ok (.iadd, 1) := by decide +kernel
theorem d_SU_newLength_7 : decode b_SU_newLength 7 = .ok (.istore_n 3, 1) := by decide +kernel
theorem d_SU_newLength_8 : decode b_SU_newLength 8 = .ok (.iconst 0, 1) := by decide +kernel
theorem d_SU_newLength_9 : decode b_SU_newLength 9 = .ok (.iload_n 3, 1) := by decide +kernel
theorem d_SU_newLength_10 : decode b_SU_newLength 10 = .ok (.if_icmp .ge 11, 3) := by decide +kernel
theorem d_SU_newLength_13 : decode b_SU_newLength 13 = .ok (.iload_n 3, 1) := by decide +kernel
theorem d_SU_newLength_14 : decode b_SU_newLength 14 = .ok (.ldc 200, 2) := by decide +kernel
theorem d_SU_newLength_16 : decode b_SU_newLength 16 = .ok (.if_icmp .gt 5, 3) := by decide +kernel
theorem d_SU_newLength_19 : decode b_SU_newLength 19 = .ok (.iload_n 3, 1) := by decide +kernel
theorem d_SU_newLength_20 : decode b_SU_newLength 20 = .ok (.ireturn, 1) := by decide +kernel
theorem d_SU_newLength_21 : decode b_SU_newLength 21 = .ok (.iload_n 0, 1) := by decide +kernel
theorem d_SU_newLength_22 : decode b_SU_newLength 22 = .ok (.iload_n 1, 1) := by decide +kernel
theorem d_SU_newLength_23 : decode b_SU_newLength 23 = .ok (.invokestatic 201, 3) := by decide +kernel
theorem d_SU_newLength_26 : decode b_SU_newLength 26 = .ok (.ireturn, 1) := by decide +kernel
theorem d_MA_max_0 : decode b_MA_max 0 = .ok (.iload_n 0, 1) := by decide +kernel
theorem d_MA_max_1 : decode b_MA_max 1 = .ok (.iload_n 1, 1) := by decide +kernel
theorem d_MA_max_2 : decode b_MA_max 2 = .ok (.if_icmp .lt 7, 3) := by decide +kernel
theorem d_MA_max_5 : decode b_MA_max 5 = .ok (.iload_n 0, 1) := by decide +kernel
theorem d_MA_max_6 : decode b_MA_max 6 = .ok (.goto 4, 3) := by decide +kernel
theorem d_MA_max_9 : decode b_MA_max 9 = .ok (.iload_n 1, 1) := by decide +kernel
theorem d_MA_max_10 : decode b_MA_max 10 = .ok (.ireturn, 1) := by decide +kernel
theorem d_SU_hugeLength_0 : decode b_SU_hugeLength 0 = .ok (.iload_n 0, 1) := by decide +kernel
theorem d_SU_hugeLength_1 : decode b_SU_hugeLength 1 = .ok (.iload_n 1, 1) := by decide +kernel
theorem d_SU_hugeLength_2 : decode b_SU_hugeLength 2 = .ok (.iadd, 1) := by decide +kernel
theorem d_SU_hugeLength_3 : decode b_SU_hugeLength 3 = .ok (.istore_n 2, 1) := by decide +kernel
theorem d_SU_hugeLength_4 : decode b_SU_hugeLength 4 = .ok (.iload_n 2, 1) := by decide +kernel
theorem d_SU_hugeLength_5 : decode b_SU_hugeLength 5 = .ok (.ifCond .ge 44, 3) := by decide +kernel
theorem d_SU_hugeLength_8 : decode b_SU_hugeLength 8 = .ok (.new 204, 3) := by decide +kernel
theorem d_SU_hugeLength_11 : decode b_SU_hugeLength 11 = .ok (.dup, 1) := by decide +kernel
theorem d_SU_hugeLength_12 : decode b_SU_hugeLength 12 = .ok (.new 89, 3) := by decide +kernel
theorem d_SU_hugeLength_15 : decode b_SU_hugeLength 15 = .ok (.dup, 1) := by decide +kernel
theorem d_SU_hugeLength_16 : decode b_SU_hugeLength 16 = .ok (.invokespecial 91, 3) := by decide +kernel
theorem d_SU_hugeLength_19 : decode b_SU_hugeLength 19 = .ok (.ldc 206, 2) := by decide +kernel
theorem d_SU_hugeLength_21 : decode b_SU_hugeLength 21 = .ok (.invokevirtual 94, 3) := by decide +kernel
theorem d_SU_hugeLength_24 : decode b_SU_hugeLength 24 = .ok (.iload_n 0, 1) := by decide +kernel
theorem d_SU_hugeLength_25 : decode b_SU_hugeLength 25 = .ok (.invokevirtual 98, 3) := by decide +kernel
theorem d_SU_hugeLength_28 : decode b_SU_hugeLength 28 = .ok (.ldc 208, 2) := by decide +kernel
theorem d_SU_hugeLength_30 : decode b_SU_hugeLength 30 = .ok (.invokevirtual 94, 3) := by decide +kernel
theorem d_SU_hugeLength_33 : decode b_SU_hugeLength 33 = .ok (.iload_n 1, 1) := by decide +kernel
theorem d_SU_hugeLength_34 : decode b_SU_hugeLength 34 = .ok (.invokevirtual 98, 3) := by decide +kernel
theorem d_SU_hugeLength_37 : decode b_SU_hugeLength 37 = .ok (.ldc 210, 2) := by decide +kernel
theorem d_SU_hugeLength_39 : decode b_SU_hugeLength 39 = .ok (.invokevirtual 94, 3) := by decide +kernel
theorem d_SU_hugeLength_42 : decode b_SU_hugeLength 42 = .ok (.invokevirtual 101, 3) := by decide +kernel
theorem d_SU_hugeLength_45 : decode b_SU_hugeLength 45 = .ok (.invokespecial 212, 3) := by decide +kernel
theorem d_SU_hugeLength_48 : decode b_SU_hugeLength 48 = .ok (.athrow, 1) := by decide +kernel
theorem d_SU_hugeLength_49 : decode b_SU_hugeLength 49 = .ok (.iload_n 2, 1) := by decide +kernel
theorem d_SU_hugeLength_50 : decode b_SU_hugeLength 50 = .ok (.ldc 200, 2) := by decide +kernel
theorem d_SU_hugeLength_52 : decode b_SU_hugeLength 52 = .ok (.if_icmp .gt 6, 3) := by decide +kernel
theorem d_SU_hugeLength_55 : decode b_SU_hugeLength 55 = .ok (.ldc 200, 2) := by decide +kernel
theorem d_SU_hugeLength_57 : decode b_SU_hugeLength 57 = .ok (.ireturn, 1) := by decide +kernel
theorem d_SU_hugeLength_58 : decode b_SU_hugeLength 58 = .ok (.iload_n 2, 1) := by decide +kernel
theorem d_SU_hugeLength_59 : decode b_SU_hugeLength 59 = .ok (.ireturn, 1) := by decide +kernel
theorem d_AR_copyOf2_0 : decode b_AR_copyOf2 0 = .ok (.aload_n 0, 1) := by decide +kernel
theorem d_AR_copyOf2_1 : decode b_AR_copyOf2 1 = .ok (.iload_n 1, 1) := by decide +kernel
theorem d_AR_copyOf2_2 : decode b_AR_copyOf2 2 = .ok (.aload_n 0, 1) := by decide +kernel
theorem d_AR_copyOf2_3 : decode b_AR_copyOf2 3 = .ok (.invokevirtual 86, 3) := by decide +kernel
theorem d_AR_copyOf2_6 : decode b_AR_copyOf2 6 = .ok (.invokestatic 300, 3) := by decide +kernel
theorem d_AR_copyOf2_9 : decode b_AR_copyOf2 9 = .ok (.areturn, 1) := by decide +kernel
theorem d_AR_copyOf3_0 : decode b_AR_copyOf3 0 = .ok (.aload_n 2, 1) := by decide +kernel
theorem d_AR_copyOf3_1 : decode b_AR_copyOf3 1 = .ok (.ldc 110, 2) := by decide +kernel
theorem d_AR_copyOf3_3 : decode b_AR_copyOf3 3 = .ok (.if_acmp .ne 10, 3) := by decide +kernel
theorem d_AR_copyOf3_6 : decode b_AR_copyOf3 6 = .ok (.iload_n 1, 1) := by decide +kernel
theorem d_AR_copyOf3_7 : decode b_AR_copyOf3 7 = .ok (.anewarray 2, 3) := by decide +kernel
theorem d_AR_copyOf3_10 : decode b_AR_copyOf3 10 = .ok (.goto 14, 3) := by decide +kernel
theorem d_AR_copyOf3_13 : decode b_AR_copyOf3 13 = .ok (.aload_n 2, 1) := by decide +kernel
theorem d_AR_copyOf3_14 : decode b_AR_copyOf3 14 = .ok (.invokevirtual 90, 3) := by decide +kernel
theorem d_AR_copyOf3_17 : decode b_AR_copyOf3 17 = .ok (.iload_n 1, 1) := by decide +kernel
theorem d_AR_copyOf3_18 : decode b_AR_copyOf3 18 = .ok (.invokestatic 95, 3) := by decide +kernel
theorem d_AR_copyOf3_21 : decode b_AR_copyOf3 21 = .ok (.checkcast 110, 3) := by decide +kernel
theorem d_AR_copyOf3_24 : decode b_AR_copyOf3 24 = .ok (.astore_n 3, 1) := by decide +kernel
theorem d_AR_copyOf3_25 : decode b_AR_copyOf3 25 = .ok (.aload_n 0, 1) := by decide +kernel
theorem d_AR_copyOf3_26 : decode b_AR_copyOf3 26 = .ok (.iconst 0, 1) := by decide +kernel
theorem d_AR_copyOf3_27 : decode b_AR_copyOf3 27 = .ok (.aload_n 3, 1) := by decide +kernel
theorem d_AR_copyOf3_28 : decode b_AR_copyOf3 28 = .ok (.iconst 0, 1) := by decide +kernel
theorem d_AR_copyOf3_29 : decode b_AR_copyOf3 29 = .ok (.aload_n 0, 1) := by decide +kernel
theorem d_AR_copyOf3_30 : decode b_AR_copyOf3 30 = .ok (.arraylength, 1) := by decide +kernel
theorem d_AR_copyOf3_31 : decode b_AR_copyOf3 31 = .ok (.iload_n 1, 1) := by decide +kernel
theorem d_AR_copyOf3_32 : decode b_AR_copyOf3 32 = .ok (.invokestatic 304, 3) := by decide +kernel
theorem d_AR_copyOf3_35 : decode b_AR_copyOf3 35 = .ok (.invokestatic 150, 3) := by decide +kernel
theorem d_AR_copyOf3_38 : decode b_AR_copyOf3 38 = .ok (.aload_n 3, 1) := by decide +kernel
theorem d_AR_copyOf3_39 : decode b_AR_copyOf3 39 = .ok (.areturn, 1) := by decide +kernel
theorem d_MA_min_0 : decode b_MA_min 0 = .ok (.iload_n 0, 1) := by decide +kernel
theorem d_MA_min_1 : decode b_MA_min 1 = .ok (.iload_n 1, 1) := by decide +kernel
theorem d_MA_min_2 : decode b_MA_min 2 = .ok (.if_icmp .gt 7, 3) := by decide +kernel
theorem d_MA_min_5 : decode b_MA_min 5 = .ok (.iload_n 0, 1) := by decide +kernel
theorem d_MA_min_6 : decode b_MA_min 6 = .ok (.goto 4, 3) := by decide +kernel
theorem d_MA_min_9 : decode b_MA_min 9 = .ok (.iload_n 1, 1) := by decide +kernel
theorem d_MA_min_10 : decode b_MA_min 10 = .ok (.ireturn, 1) := by decide +kernel
theorem d_IS_build_0 : decode b_IS_build 0 = .ok (.aload_n 0, 1) := by decide +kernel
theorem d_IS_build_1 : decode b_IS_build 1 = .ok (.iload_n 1, 1) := by decide +kernel
theorem d_IS_build_2 : decode b_IS_build 2 = .ok (.invokevirtual 53, 3) := by decide +kernel
theorem d_IS_build_5 : decode b_IS_build 5 = .ok (.ifCond .eq 14, 3) := by decide +kernel
theorem d_IS_build_8 : decode b_IS_build 8 = .ok (.aload_n 0, 1) := by decide +kernel
theorem d_IS_build_9 : decode b_IS_build 9 = .ok (.getfield 22, 3) := by decide +kernel
theorem d_IS_build_12 : decode b_IS_build 12 = .ok (.iload_n 1, 1) := by decide +kernel
theorem d_IS_build_13 : decode b_IS_build 13 = .ok (.invokevirtual 57, 3) := by decide +kernel
theorem d_IS_build_16 : decode b_IS_build 16 = .ok (.ifCond .ne 5, 3) := by decide +kernel
theorem d_IS_build_19 : decode b_IS_build 19 = .ok (.iconst (-1), 1) := by decide +kernel
theorem d_IS_build_20 : decode b_IS_build 20 = .ok (.ireturn, 1) := by decide +kernel
theorem d_IS_build_21 : decode b_IS_build 21 = .ok (.aload_n 0, 1) := by decide +kernel
theorem d_IS_build_22 : decode b_IS_build 22 = .ok (.getfield 32, 3) := by decide +kernel
theorem d_IS_build_25 : decode b_IS_build 25 = .ok (.aload_n 0, 1) := by decide +kernel
theorem d_IS_build_26 : decode b_IS_build 26 = .ok (.getfield 10, 3) := by decide +kernel
theorem d_IS_build_29 : decode b_IS_build 29 = .ok (.iload_n 1, 1) := by decide +kernel
theorem d_IS_build_30 : decode b_IS_build 30 = .ok (.invokevirtual 60, 3) := by decide +kernel
theorem d_IS_build_33 : decode b_IS_build 33 = .ok (.checkcast 44, 3) := by decide +kernel
theorem d_IS_build_36 : decode b_IS_build 36 = .ok (.getfield 64, 3) := by decide +kernel
theorem d_IS_build_39 : decode b_IS_build 39 = .ok (.invokevirtual 67, 3) := by decide +kernel
theorem d_IS_build_42 : decode b_IS_build 42 = .ok (.aload_n 0, 1) := by decide +kernel
theorem d_IS_build_43 : decode b_IS_build 43 = .ok (.getfield 32, 3) := by decide +kernel
theorem d_IS_build_46 : decode b_IS_build 46 = .ok (.iload_n 2, 1) := by decide +kernel
theorem d_IS_build_47 : decode b_IS_build 47 = .ok (.iload_n 3, 1) := by decide +kernel
theorem d_IS_build_48 : decode b_IS_build 48 = .ok (.iload 4, 2) := by decide +kernel
theorem d_IS_build_50 : decode b_IS_build 50 = .ok (.invokevirtual 71, 3) := by decide +kernel
theorem d_IS_build_53 : decode b_IS_build 53 = .ok (.ifCond .ne 5, 3) := by decide +kernel
theorem d_IS_build_56 : decode b_IS_build 56 = .ok (.iconst (-1), 1) := by decide +kernel
theorem d_IS_build_57 : decode b_IS_build 57 = .ok (.ireturn, 1) := by decide +kernel
theorem d_IS_build_58 : decode b_IS_build 58 = .ok (.aload_n 0, 1) := by decide +kernel
theorem d_IS_build_59 : decode b_IS_build 59 = .ok (.iload_n 1, 1) := by decide +kernel
theorem d_IS_build_60 : decode b_IS_build 60 = .ok (.invokevirtual 75, 3) := by decide +kernel
theorem d_IS_build_63 : decode b_IS_build 63 = .ok (.ireturn, 1) := by decide +kernel
theorem d_IS_isMade_0 : decode b_IS_isMade 0 = .ok (.iload_n 1, 1) := by decide +kernel
theorem d_IS_isMade_1 : decode b_IS_isMade 1 = .ok (.ifCond .lt 18, 3) := by decide +kernel
theorem d_IS_isMade_4 : decode b_IS_isMade 4 = .ok (.iload_n 1, 1) := by decide +kernel
theorem d_IS_isMade_5 : decode b_IS_isMade 5 = .ok (.aload_n 0, 1) := by decide +kernel
theorem d_IS_isMade_6 : decode b_IS_isMade 6 = .ok (.getfield 10, 3) := by decide +kernel
theorem d_IS_isMade_9 : decode b_IS_isMade 9 = .ok (.invokevirtual 161, 3) := by decide +kernel
theorem d_IS_isMade_12 : decode b_IS_isMade 12 = .ok (.if_icmp .ge 7, 3) := by decide +kernel
theorem d_IS_isMade_15 : decode b_IS_isMade 15 = .ok (.iconst 1, 1) := by decide +kernel
theorem d_IS_isMade_16 : decode b_IS_isMade 16 = .ok (.goto 4, 3) := by decide +kernel
theorem d_IS_isMade_19 : decode b_IS_isMade 19 = .ok (.iconst 0, 1) := by decide +kernel
theorem d_IS_isMade_20 : decode b_IS_isMade 20 = .ok (.ireturn, 1) := by decide +kernel
theorem d_AL_size_0 : decode b_AL_size 0 = .ok (.aload_n 0, 1) := by decide +kernel
theorem d_AL_size_1 : decode b_AL_size 1 = .ok (.getfield 48, 3) := by decide +kernel
theorem d_AL_size_4 : decode b_AL_size 4 = .ok (.ireturn, 1) := by decide +kernel
theorem d_ST_holds_0 : decode b_ST_holds 0 = .ok (.iload_n 1, 1) := by decide +kernel
theorem d_ST_holds_1 : decode b_ST_holds 1 = .ok (.ifCond .lt 22, 3) := by decide +kernel
theorem d_ST_holds_4 : decode b_ST_holds 4 = .ok (.iload_n 1, 1) := by decide +kernel
theorem d_ST_holds_5 : decode b_ST_holds 5 = .ok (.bipush 40, 2) := by decide +kernel
theorem d_ST_holds_7 : decode b_ST_holds 7 = .ok (.if_icmp .ge 16, 3) := by decide +kernel
theorem d_ST_holds_10 : decode b_ST_holds 10 = .ok (.aload_n 0, 1) := by decide +kernel
theorem d_ST_holds_11 : decode b_ST_holds 11 = .ok (.getfield 9, 3) := by decide +kernel
theorem d_ST_holds_14 : decode b_ST_holds 14 = .ok (.iload_n 1, 1) := by decide +kernel
theorem d_ST_holds_15 : decode b_ST_holds 15 = .ok (.baload, 1) := by decide +kernel
theorem d_ST_holds_16 : decode b_ST_holds 16 = .ok (.ifCond .eq 7, 3) := by decide +kernel
theorem d_ST_holds_19 : decode b_ST_holds 19 = .ok (.iconst 1, 1) := by decide +kernel
theorem d_ST_holds_20 : decode b_ST_holds 20 = .ok (.goto 4, 3) := by decide +kernel
theorem d_ST_holds_23 : decode b_ST_holds 23 = .ok (.iconst 0, 1) := by decide +kernel
theorem d_ST_holds_24 : decode b_ST_holds 24 = .ok (.ireturn, 1) := by decide +kernel
theorem d_AL_get_0 : decode b_AL_get 0 = .ok (.iload_n 1, 1) := by decide +kernel
theorem d_AL_get_1 : decode b_AL_get 1 = .ok (.aload_n 0, 1) := by decide +kernel
theorem d_AL_get_2 : decode b_AL_get 2 = .ok (.getfield 48, 3) := by decide +kernel
theorem d_AL_get_5 : decode b_AL_get 5 = .ok (.invokestatic 118, 3) := by decide +kernel
theorem d_AL_get_8 : decode b_AL_get 8 = .ok (.pop, 1) := by decide +kernel
theorem d_AL_get_9 : decode b_AL_get 9 = .ok (.aload_n 0, 1) := by decide +kernel
theorem d_AL_get_10 : decode b_AL_get 10 = .ok (.iload_n 1, 1) := by decide +kernel
theorem d_AL_get_11 : decode b_AL_get 11 = .ok (.invokevirtual 123, 3) := by decide +kernel
theorem d_AL_get_14 : decode b_AL_get 14 = .ok (.areturn, 1) := by decide +kernel
theorem d_OB_checkIndex_0 : decode b_OB_checkIndex 0 = .ok (.iload_n 0, 1) := by decide +kernel
theorem d_OB_checkIndex_1 : decode b_OB_checkIndex 1 = .ok (.iload_n 1, 1) := by decide +kernel
theorem d_OB_checkIndex_2 : decode b_OB_checkIndex 2 = .ok (.aconst_null, 1) := by decide +kernel
theorem d_OB_checkIndex_3 : decode b_OB_checkIndex 3 = .ok (.invokestatic 105, 3) := by decide +kernel
theorem d_OB_checkIndex_6 : decode b_OB_checkIndex 6 = .ok (.ireturn, 1) := by decide +kernel
theorem d_PR_checkIndex_0 : decode b_PR_checkIndex 0 = .ok (.iload_n 0, 1) := by decide +kernel
theorem d_PR_checkIndex_1 : decode b_PR_checkIndex 1 = .ok (.ifCond .lt 8, 3) := by decide +kernel
theorem d_PR_checkIndex_4 : decode b_PR_checkIndex 4 = .ok (.iload_n 0, 1) := by decide +kernel
theorem d_PR_checkIndex_5 : decode b_PR_checkIndex 5 = .ok (.iload_n 1, 1) := by decide +kernel
theorem d_PR_checkIndex_6 : decode b_PR_checkIndex 6 = .ok (.if_icmp .lt 10, 3) := by decide +kernel
theorem d_PR_checkIndex_9 : decode b_PR_checkIndex 9 = .ok (.aload_n 2, 1) := by decide +kernel
theorem d_PR_checkIndex_10 : decode b_PR_checkIndex 10 = .ok (.iload_n 0, 1) := by decide +kernel
theorem d_PR_checkIndex_11 : decode b_PR_checkIndex 11 = .ok (.iload_n 1, 1) := by decide +kernel
theorem d_PR_checkIndex_12 : decode b_PR_checkIndex 12 = .ok (.invokestatic 95, 3) := by decide +kernel
theorem d_PR_checkIndex_15 : decode b_PR_checkIndex 15 = .ok (.athrow, 1) := by decide +kernel
theorem d_PR_checkIndex_16 : decode b_PR_checkIndex 16 = .ok (.iload_n 0, 1) := by decide +kernel
theorem d_PR_checkIndex_17 : decode b_PR_checkIndex 17 = .ok (.ireturn, 1) := by decide +kernel
theorem d_AL_elementData_0 : decode b_AL_elementData 0 = .ok (.aload_n 0, 1) := by decide +kernel
theorem d_AL_elementData_1 : decode b_AL_elementData 1 = .ok (.getfield 9, 3) := by decide +kernel
theorem d_AL_elementData_4 : decode b_AL_elementData 4 = .ok (.iload_n 1, 1) := by decide +kernel
theorem d_AL_elementData_5 : decode b_AL_elementData 5 = .ok (.aaload, 1) := by decide +kernel
theorem d_AL_elementData_6 : decode b_AL_elementData 6 = .ok (.areturn, 1) := by decide +kernel
theorem d_TR_become_0 : decode b_TR_become 0 = .ok (.aload_n 1, 1) := by decide +kernel
theorem d_TR_become_1 : decode b_TR_become 1 = .ok (.getfield 9, 3) := by decide +kernel
theorem d_TR_become_4 : decode b_TR_become 4 = .ok (.iconst 0, 1) := by decide +kernel
theorem d_TR_become_5 : decode b_TR_become 5 = .ok (.aload_n 0, 1) := by decide +kernel
theorem d_TR_become_6 : decode b_TR_become 6 = .ok (.getfield 9, 3) := by decide +kernel
theorem d_TR_become_9 : decode b_TR_become 9 = .ok (.iconst 0, 1) := by decide +kernel
theorem d_TR_become_10 : decode b_TR_become 10 = .ok (.bipush 125, 2) := by decide +kernel
theorem d_TR_become_12 : decode b_TR_become 12 = .ok (.invokestatic 25, 3) := by decide +kernel
theorem d_TR_become_15 : decode b_TR_become 15 = .ok (.return_, 1) := by decide +kernel
theorem d_TR_change_0 : decode b_TR_change 0 = .ok (.iload_n 2, 1) := by decide +kernel
theorem d_TR_change_1 : decode b_TR_change 1 = .ok (.invokestatic 31, 3) := by decide +kernel
theorem d_TR_change_4 : decode b_TR_change 4 = .ok (.ifCond .ne 5, 3) := by decide +kernel
theorem d_TR_change_7 : decode b_TR_change 7 = .ok (.iconst 0, 1) := by decide +kernel
theorem d_TR_change_8 : decode b_TR_change 8 = .ok (.ireturn, 1) := by decide +kernel
theorem d_TR_change_9 : decode b_TR_change 9 = .ok (.iload_n 1, 1) := by decide +kernel
theorem d_TR_change_10 : decode b_TR_change 10 = .ok (.tableswitch 83 0 4 #[34, 41, 47, 53, 60], 34) := by decide +kernel
theorem d_TR_change_44 : decode b_TR_change 44 = .ok (.aload_n 0, 1) := by decide +kernel
theorem d_TR_change_45 : decode b_TR_change 45 = .ok (.iload_n 2, 1) := by decide +kernel
theorem d_TR_change_46 : decode b_TR_change 46 = .ok (.iload_n 3, 1) := by decide +kernel
theorem d_TR_change_47 : decode b_TR_change 47 = .ok (.invokevirtual 37, 3) := by decide +kernel
theorem d_TR_change_50 : decode b_TR_change 50 = .ok (.ireturn, 1) := by decide +kernel
theorem d_TR_change_51 : decode b_TR_change 51 = .ok (.aload_n 0, 1) := by decide +kernel
theorem d_TR_change_52 : decode b_TR_change 52 = .ok (.iload_n 2, 1) := by decide +kernel
theorem d_TR_change_53 : decode b_TR_change 53 = .ok (.invokevirtual 41, 3) := by decide +kernel
theorem d_TR_change_56 : decode b_TR_change 56 = .ok (.ireturn, 1) := by decide +kernel
theorem d_TR_change_57 : decode b_TR_change 57 = .ok (.aload_n 0, 1) := by decide +kernel
theorem d_TR_change_58 : decode b_TR_change 58 = .ok (.iload_n 2, 1) := by decide +kernel
theorem d_TR_change_59 : decode b_TR_change 59 = .ok (.invokevirtual 44, 3) := by decide +kernel
theorem d_TR_change_62 : decode b_TR_change 62 = .ok (.ireturn, 1) := by decide +kernel
theorem d_TR_change_63 : decode b_TR_change 63 = .ok (.aload_n 0, 1) := by decide +kernel
theorem d_TR_change_64 : decode b_TR_change 64 = .ok (.iload_n 2, 1) := by decide +kernel
theorem d_TR_change_65 : decode b_TR_change 65 = .ok (.iload_n 3, 1) := by decide +kernel
theorem d_TR_change_66 : decode b_TR_change 66 = .ok (.invokevirtual 47, 3) := by decide +kernel
theorem d_TR_change_69 : decode b_TR_change 69 = .ok (.ireturn, 1) := by decide +kernel
theorem d_TR_change_70 : decode b_TR_change 70 = .ok (.aload_n 0, 1) := by decide +kernel
theorem d_TR_change_71 : decode b_TR_change 71 = .ok (.iload_n 2, 1) := by decide +kernel
theorem d_TR_change_72 : decode b_TR_change 72 = .ok (.iload_n 3, 1) := by decide +kernel
theorem d_TR_change_73 : decode b_TR_change 73 = .ok (.invokevirtual 47, 3) := by decide +kernel
theorem d_TR_change_76 : decode b_TR_change 76 = .ok (.ifCond .eq 15, 3) := by decide +kernel
theorem d_TR_change_79 : decode b_TR_change 79 = .ok (.aload_n 0, 1) := by decide +kernel
theorem d_TR_change_80 : decode b_TR_change 80 = .ok (.iload_n 2, 1) := by decide +kernel
theorem d_TR_change_81 : decode b_TR_change 81 = .ok (.invokevirtual 44, 3) := by decide +kernel
theorem d_TR_change_84 : decode b_TR_change 84 = .ok (.ifCond .eq 7, 3) := by decide +kernel
theorem d_TR_change_87 : decode b_TR_change 87 = .ok (.iconst 1, 1) := by decide +kernel
theorem d_TR_change_88 : decode b_TR_change 88 = .ok (.goto 4, 3) := by decide +kernel
theorem d_TR_change_91 : decode b_TR_change 91 = .ok (.iconst 0, 1) := by decide +kernel
theorem d_TR_change_92 : decode b_TR_change 92 = .ok (.ireturn, 1) := by decide +kernel
theorem d_TR_change_93 : decode b_TR_change 93 = .ok (.iconst 0, 1) := by decide +kernel
theorem d_TR_change_94 : decode b_TR_change 94 = .ok (.ireturn, 1) := by decide +kernel
theorem d_PA_isLegal_0 : decode b_PA_isLegal 0 = .ok (.iload_n 0, 1) := by decide +kernel
theorem d_PA_isLegal_1 : decode b_PA_isLegal 1 = .ok (.bipush 25, 2) := by decide +kernel
end
section
theorem d_PA_isLegal_3 : decode b_PA_isLegal 3 = .ok (.if_icmp .lt 13, 3) := by decide +kernel
theorem d_PA_isLegal_6 : decode b_PA_isLegal 6 = .ok (.iload_n 0, 1) := by decide +kernel
theorem d_PA_isLegal_7 : decode b_PA_isLegal 7 = .ok (.bipush 125, 2) := by decide +kernel
theorem d_PA_isLegal_9 : decode b_PA_isLegal 9 = .ok (.if_icmp .ge 7, 3) := by decide +kernel
theorem d_PA_isLegal_12 : decode b_PA_isLegal 12 = .ok (.iconst 1, 1) := by decide +kernel
theorem d_PA_isLegal_13 : decode b_PA_isLegal 13 = .ok (.goto 4, 3) := by decide +kernel
theorem d_PA_isLegal_16 : decode b_PA_isLegal 16 = .ok (.iconst 0, 1) := by decide +kernel
theorem d_PA_isLegal_17 : decode b_PA_isLegal 17 = .ok (.istore_n 1, 1) := by decide +kernel
theorem d_PA_isLegal_18 : decode b_PA_isLegal 18 = .ok (.iload_n 0, 1) := by decide +kernel
theorem d_PA_isLegal_19 : decode b_PA_isLegal 19 = .ok (.iconst 5, 1) := by decide +kernel
theorem d_PA_isLegal_20 : decode b_PA_isLegal 20 = .ok (.idiv, 1) := by decide +kernel
theorem d_PA_isLegal_21 : decode b_PA_isLegal 21 = .ok (.iconst 5, 1) := by decide +kernel
theorem d_PA_isLegal_22 : decode b_PA_isLegal 22 = .ok (.irem, 1) := by decide +kernel
theorem d_PA_isLegal_23 : decode b_PA_isLegal 23 = .ok (.ifCond .eq 7, 3) := by decide +kernel
theorem d_PA_isLegal_26 : decode b_PA_isLegal 26 = .ok (.iconst 1, 1) := by decide +kernel
theorem d_PA_isLegal_27 : decode b_PA_isLegal 27 = .ok (.goto 4, 3) := by decide +kernel
theorem d_PA_isLegal_30 : decode b_PA_isLegal 30 = .ok (.iconst 0, 1) := by decide +kernel
theorem d_PA_isLegal_31 : decode b_PA_isLegal 31 = .ok (.istore_n 2, 1) := by decide +kernel
theorem d_PA_isLegal_32 : decode b_PA_isLegal 32 = .ok (.iload_n 0, 1) := by decide +kernel
theorem d_PA_isLegal_33 : decode b_PA_isLegal 33 = .ok (.iconst 5, 1) := by decide +kernel
theorem d_PA_isLegal_34 : decode b_PA_isLegal 34 = .ok (.irem, 1) := by decide +kernel
theorem d_PA_isLegal_35 : decode b_PA_isLegal 35 = .ok (.ifCond .eq 7, 3) := by decide +kernel
theorem d_PA_isLegal_38 : decode b_PA_isLegal 38 = .ok (.iconst 1, 1) := by decide +kernel
theorem d_PA_isLegal_39 : decode b_PA_isLegal 39 = .ok (.goto 4, 3) := by decide +kernel
theorem d_PA_isLegal_42 : decode b_PA_isLegal 42 = .ok (.iconst 0, 1) := by decide +kernel
theorem d_PA_isLegal_43 : decode b_PA_isLegal 43 = .ok (.istore_n 3, 1) := by decide +kernel
theorem d_PA_isLegal_44 : decode b_PA_isLegal 44 = .ok (.iload_n 1, 1) := by decide +kernel
theorem d_PA_isLegal_45 : decode b_PA_isLegal 45 = .ok (.ifCond .eq 15, 3) := by decide +kernel
theorem d_PA_isLegal_48 : decode b_PA_isLegal 48 = .ok (.iload_n 2, 1) := by decide +kernel
theorem d_PA_isLegal_49 : decode b_PA_isLegal 49 = .ok (.ifCond .ne 7, 3) := by decide +kernel
theorem d_PA_isLegal_52 : decode b_PA_isLegal 52 = .ok (.iload_n 3, 1) := by decide +kernel
theorem d_PA_isLegal_53 : decode b_PA_isLegal 53 = .ok (.ifCond .ne 7, 3) := by decide +kernel
theorem d_PA_isLegal_56 : decode b_PA_isLegal 56 = .ok (.iconst 1, 1) := by decide +kernel
theorem d_PA_isLegal_57 : decode b_PA_isLegal 57 = .ok (.goto 4, 3) := by decide +kernel
theorem d_PA_isLegal_60 : decode b_PA_isLegal 60 = .ok (.iconst 0, 1) := by decide +kernel
theorem d_PA_isLegal_61 : decode b_PA_isLegal 61 = .ok (.ireturn, 1) := by decide +kernel
theorem d_TR_writeFile_0 : decode b_TR_writeFile 0 = .ok (.aload_n 0, 1) := by decide +kernel
theorem d_TR_writeFile_1 : decode b_TR_writeFile 1 = .ok (.getfield 9, 3) := by decide +kernel
theorem d_TR_writeFile_4 : decode b_TR_writeFile 4 = .ok (.iload_n 1, 1) := by decide +kernel
theorem d_TR_writeFile_5 : decode b_TR_writeFile 5 = .ok (.laload, 1) := by decide +kernel
theorem d_TR_writeFile_6 : decode b_TR_writeFile 6 = .ok (.ldc2_w 23, 3) := by decide +kernel
theorem d_TR_writeFile_9 : decode b_TR_writeFile 9 = .ok (.lcmp, 1) := by decide +kernel
theorem d_TR_writeFile_10 : decode b_TR_writeFile 10 = .ok (.ifCond .eq 11, 3) := by decide +kernel
theorem d_TR_writeFile_13 : decode b_TR_writeFile 13 = .ok (.aload_n 0, 1) := by decide +kernel
theorem d_TR_writeFile_14 : decode b_TR_writeFile 14 = .ok (.iload_n 1, 1) := by decide +kernel
theorem d_TR_writeFile_15 : decode b_TR_writeFile 15 = .ok (.invokevirtual 50, 3) := by decide +kernel
theorem d_TR_writeFile_18 : decode b_TR_writeFile 18 = .ok (.ifCond .eq 5, 3) := by decide +kernel
theorem d_TR_writeFile_21 : decode b_TR_writeFile 21 = .ok (.iconst 0, 1) := by decide +kernel
theorem d_TR_writeFile_22 : decode b_TR_writeFile 22 = .ok (.ireturn, 1) := by decide +kernel
theorem d_TR_writeFile_23 : decode b_TR_writeFile 23 = .ok (.aload_n 0, 1) := by decide +kernel
theorem d_TR_writeFile_24 : decode b_TR_writeFile 24 = .ok (.iload_n 1, 1) := by decide +kernel
theorem d_TR_writeFile_25 : decode b_TR_writeFile 25 = .ok (.invokevirtual 53, 3) := by decide +kernel
theorem d_TR_writeFile_28 : decode b_TR_writeFile 28 = .ok (.aload_n 0, 1) := by decide +kernel
theorem d_TR_writeFile_29 : decode b_TR_writeFile 29 = .ok (.getfield 9, 3) := by decide +kernel
theorem d_TR_writeFile_32 : decode b_TR_writeFile 32 = .ok (.iload_n 1, 1) := by decide +kernel
theorem d_TR_writeFile_33 : decode b_TR_writeFile 33 = .ok (.iload_n 2, 1) := by decide +kernel
theorem d_TR_writeFile_34 : decode b_TR_writeFile 34 = .ok (.i2l, 1) := by decide +kernel
theorem d_TR_writeFile_35 : decode b_TR_writeFile 35 = .ok (.lastore, 1) := by decide +kernel
theorem d_TR_writeFile_36 : decode b_TR_writeFile 36 = .ok (.iconst 1, 1) := by decide +kernel
theorem d_TR_writeFile_37 : decode b_TR_writeFile 37 = .ok (.ireturn, 1) := by decide +kernel
theorem d_TR_liesBelowFile_0 : decode b_TR_liesBelowFile 0 = .ok (.iload_n 1, 1) := by decide +kernel
theorem d_TR_liesBelowFile_1 : decode b_TR_liesBelowFile 1 = .ok (.invokestatic 71, 3) := by decide +kernel
theorem d_TR_liesBelowFile_4 : decode b_TR_liesBelowFile 4 = .ok (.istore_n 2, 1) := by decide +kernel
theorem d_TR_liesBelowFile_5 : decode b_TR_liesBelowFile 5 = .ok (.aload_n 0, 1) := by decide +kernel
theorem d_TR_liesBelowFile_6 : decode b_TR_liesBelowFile 6 = .ok (.iload_n 2, 1) := by decide +kernel
theorem d_TR_liesBelowFile_7 : decode b_TR_liesBelowFile 7 = .ok (.invokevirtual 57, 3) := by decide +kernel
theorem d_TR_liesBelowFile_10 : decode b_TR_liesBelowFile 10 = .ok (.ifCond .ne 14, 3) := by decide +kernel
theorem d_TR_liesBelowFile_13 : decode b_TR_liesBelowFile 13 = .ok (.aload_n 0, 1) := by decide +kernel
theorem d_TR_liesBelowFile_14 : decode b_TR_liesBelowFile 14 = .ok (.iload_n 2, 1) := by decide +kernel
theorem d_TR_liesBelowFile_15 : decode b_TR_liesBelowFile 15 = .ok (.invokestatic 71, 3) := by decide +kernel
theorem d_TR_liesBelowFile_18 : decode b_TR_liesBelowFile 18 = .ok (.invokevirtual 57, 3) := by decide +kernel
theorem d_TR_liesBelowFile_21 : decode b_TR_liesBelowFile 21 = .ok (.ifCond .eq 7, 3) := by decide +kernel
theorem d_TR_liesBelowFile_24 : decode b_TR_liesBelowFile 24 = .ok (.iconst 1, 1) := by decide +kernel
theorem d_TR_liesBelowFile_25 : decode b_TR_liesBelowFile 25 = .ok (.goto 4, 3) := by decide +kernel
theorem d_TR_liesBelowFile_28 : decode b_TR_liesBelowFile 28 = .ok (.iconst 0, 1) := by decide +kernel
theorem d_TR_liesBelowFile_29 : decode b_TR_liesBelowFile 29 = .ok (.ireturn, 1) := by decide +kernel
theorem d_PA_parent_0 : decode b_PA_parent 0 = .ok (.iload_n 0, 1) := by decide +kernel
theorem d_PA_parent_1 : decode b_PA_parent 1 = .ok (.invokestatic 9, 3) := by decide +kernel
theorem d_PA_parent_4 : decode b_PA_parent 4 = .ok (.lookupswitch 41 #[(2, 28), (3, 35)], 28) := by decide +kernel
theorem d_PA_parent_32 : decode b_PA_parent 32 = .ok (.iload_n 0, 1) := by decide +kernel
theorem d_PA_parent_33 : decode b_PA_parent 33 = .ok (.iload_n 0, 1) := by decide +kernel
theorem d_PA_parent_34 : decode b_PA_parent 34 = .ok (.bipush 25, 2) := by decide +kernel
theorem d_PA_parent_36 : decode b_PA_parent 36 = .ok (.irem, 1) := by decide +kernel
theorem d_PA_parent_37 : decode b_PA_parent 37 = .ok (.isub, 1) := by decide +kernel
theorem d_PA_parent_38 : decode b_PA_parent 38 = .ok (.ireturn, 1) := by decide +kernel
theorem d_PA_parent_39 : decode b_PA_parent 39 = .ok (.iload_n 0, 1) := by decide +kernel
theorem d_PA_parent_40 : decode b_PA_parent 40 = .ok (.iload_n 0, 1) := by decide +kernel
theorem d_PA_parent_41 : decode b_PA_parent 41 = .ok (.iconst 5, 1) := by decide +kernel
theorem d_PA_parent_42 : decode b_PA_parent 42 = .ok (.irem, 1) := by decide +kernel
theorem d_PA_parent_43 : decode b_PA_parent 43 = .ok (.isub, 1) := by decide +kernel
theorem d_PA_parent_44 : decode b_PA_parent 44 = .ok (.ireturn, 1) := by decide +kernel
theorem d_PA_parent_45 : decode b_PA_parent 45 = .ok (.iconst 0, 1) := by decide +kernel
theorem d_PA_parent_46 : decode b_PA_parent 46 = .ok (.ireturn, 1) := by decide +kernel
theorem d_PA_names_0 : decode b_PA_names 0 = .ok (.iload_n 0, 1) := by decide +kernel
theorem d_PA_names_1 : decode b_PA_names 1 = .ok (.ifCond .ne 5, 3) := by decide +kernel
theorem d_PA_names_4 : decode b_PA_names 4 = .ok (.iconst 0, 1) := by decide +kernel
theorem d_PA_names_5 : decode b_PA_names 5 = .ok (.ireturn, 1) := by decide +kernel
theorem d_PA_names_6 : decode b_PA_names 6 = .ok (.iload_n 0, 1) := by decide +kernel
theorem d_PA_names_7 : decode b_PA_names 7 = .ok (.bipush 25, 2) := by decide +kernel
theorem d_PA_names_9 : decode b_PA_names 9 = .ok (.irem, 1) := by decide +kernel
theorem d_PA_names_10 : decode b_PA_names 10 = .ok (.ifCond .ne 5, 3) := by decide +kernel
theorem d_PA_names_13 : decode b_PA_names 13 = .ok (.iconst 1, 1) := by decide +kernel
theorem d_PA_names_14 : decode b_PA_names 14 = .ok (.ireturn, 1) := by decide +kernel
theorem d_PA_names_15 : decode b_PA_names 15 = .ok (.iload_n 0, 1) := by decide +kernel
theorem d_PA_names_16 : decode b_PA_names 16 = .ok (.iconst 5, 1) := by decide +kernel
theorem d_PA_names_17 : decode b_PA_names 17 = .ok (.irem, 1) := by decide +kernel
theorem d_PA_names_18 : decode b_PA_names 18 = .ok (.ifCond .ne 7, 3) := by decide +kernel
theorem d_PA_names_21 : decode b_PA_names 21 = .ok (.iconst 2, 1) := by decide +kernel
theorem d_PA_names_22 : decode b_PA_names 22 = .ok (.goto 4, 3) := by decide +kernel
theorem d_PA_names_25 : decode b_PA_names 25 = .ok (.iconst 3, 1) := by decide +kernel
theorem d_PA_names_26 : decode b_PA_names 26 = .ok (.ireturn, 1) := by decide +kernel
theorem d_TR_isFile_0 : decode b_TR_isFile 0 = .ok (.aload_n 0, 1) := by decide +kernel
theorem d_TR_isFile_1 : decode b_TR_isFile 1 = .ok (.getfield 9, 3) := by decide +kernel
theorem d_TR_isFile_4 : decode b_TR_isFile 4 = .ok (.iload_n 1, 1) := by decide +kernel
theorem d_TR_isFile_5 : decode b_TR_isFile 5 = .ok (.laload, 1) := by decide +kernel
theorem d_TR_isFile_6 : decode b_TR_isFile 6 = .ok (.ldc2_w 15, 3) := by decide +kernel
theorem d_TR_isFile_9 : decode b_TR_isFile 9 = .ok (.lcmp, 1) := by decide +kernel
theorem d_TR_isFile_10 : decode b_TR_isFile 10 = .ok (.ifCond .eq 20, 3) := by decide +kernel
theorem d_TR_isFile_13 : decode b_TR_isFile 13 = .ok (.aload_n 0, 1) := by decide +kernel
theorem d_TR_isFile_14 : decode b_TR_isFile 14 = .ok (.getfield 9, 3) := by decide +kernel
theorem d_TR_isFile_17 : decode b_TR_isFile 17 = .ok (.iload_n 1, 1) := by decide +kernel
theorem d_TR_isFile_18 : decode b_TR_isFile 18 = .ok (.laload, 1) := by decide +kernel
theorem d_TR_isFile_19 : decode b_TR_isFile 19 = .ok (.ldc2_w 23, 3) := by decide +kernel
theorem d_TR_isFile_22 : decode b_TR_isFile 22 = .ok (.lcmp, 1) := by decide +kernel
theorem d_TR_isFile_23 : decode b_TR_isFile 23 = .ok (.ifCond .eq 7, 3) := by decide +kernel
theorem d_TR_isFile_26 : decode b_TR_isFile 26 = .ok (.iconst 1, 1) := by decide +kernel
theorem d_TR_isFile_27 : decode b_TR_isFile 27 = .ok (.goto 4, 3) := by decide +kernel
theorem d_TR_isFile_30 : decode b_TR_isFile 30 = .ok (.iconst 0, 1) := by decide +kernel
theorem d_TR_isFile_31 : decode b_TR_isFile 31 = .ok (.ireturn, 1) := by decide +kernel
theorem d_TR_makeAllAbove_0 : decode b_TR_makeAllAbove 0 = .ok (.iload_n 1, 1) := by decide +kernel
theorem d_TR_makeAllAbove_1 : decode b_TR_makeAllAbove 1 = .ok (.invokestatic 71, 3) := by decide +kernel
theorem d_TR_makeAllAbove_4 : decode b_TR_makeAllAbove 4 = .ok (.istore_n 2, 1) := by decide +kernel
theorem d_TR_makeAllAbove_5 : decode b_TR_makeAllAbove 5 = .ok (.aload_n 0, 1) := by decide +kernel
theorem d_TR_makeAllAbove_6 : decode b_TR_makeAllAbove 6 = .ok (.getfield 9, 3) := by decide +kernel
theorem d_TR_makeAllAbove_9 : decode b_TR_makeAllAbove 9 = .ok (.iload_n 2, 1) := by decide +kernel
theorem d_TR_makeAllAbove_10 : decode b_TR_makeAllAbove 10 = .ok (.ldc2_w 23, 3) := by decide +kernel
theorem d_TR_makeAllAbove_13 : decode b_TR_makeAllAbove 13 = .ok (.lastore, 1) := by decide +kernel
theorem d_TR_makeAllAbove_14 : decode b_TR_makeAllAbove 14 = .ok (.aload_n 0, 1) := by decide +kernel
theorem d_TR_makeAllAbove_15 : decode b_TR_makeAllAbove 15 = .ok (.getfield 9, 3) := by decide +kernel
theorem d_TR_makeAllAbove_18 : decode b_TR_makeAllAbove 18 = .ok (.iload_n 2, 1) := by decide +kernel
theorem d_TR_makeAllAbove_19 : decode b_TR_makeAllAbove 19 = .ok (.invokestatic 71, 3) := by decide +kernel
theorem d_TR_makeAllAbove_22 : decode b_TR_makeAllAbove 22 = .ok (.ldc2_w 23, 3) := by decide +kernel
theorem d_TR_makeAllAbove_25 : decode b_TR_makeAllAbove 25 = .ok (.lastore, 1) := by decide +kernel
theorem d_TR_makeAllAbove_26 : decode b_TR_makeAllAbove 26 = .ok (.return_, 1) := by decide +kernel
theorem d_TR_makeDirectory_0 : decode b_TR_makeDirectory 0 = .ok (.aload_n 0, 1) := by decide +kernel
theorem d_TR_makeDirectory_1 : decode b_TR_makeDirectory 1 = .ok (.iload_n 1, 1) := by decide +kernel
theorem d_TR_makeDirectory_2 : decode b_TR_makeDirectory 2 = .ok (.invokevirtual 57, 3) := by decide +kernel
theorem d_TR_makeDirectory_5 : decode b_TR_makeDirectory 5 = .ok (.ifCond .ne 11, 3) := by decide +kernel
theorem d_TR_makeDirectory_8 : decode b_TR_makeDirectory 8 = .ok (.aload_n 0, 1) := by decide +kernel
theorem d_TR_makeDirectory_9 : decode b_TR_makeDirectory 9 = .ok (.iload_n 1, 1) := by decide +kernel
theorem d_TR_makeDirectory_10 : decode b_TR_makeDirectory 10 = .ok (.invokevirtual 50, 3) := by decide +kernel
theorem d_TR_makeDirectory_13 : decode b_TR_makeDirectory 13 = .ok (.ifCond .eq 5, 3) := by decide +kernel
theorem d_TR_makeDirectory_16 : decode b_TR_makeDirectory 16 = .ok (.iconst 0, 1) := by decide +kernel
theorem d_TR_makeDirectory_17 : decode b_TR_makeDirectory 17 = .ok (.ireturn, 1) := by decide +kernel
theorem d_TR_makeDirectory_18 : decode b_TR_makeDirectory 18 = .ok (.aload_n 0, 1) := by decide +kernel
theorem d_TR_makeDirectory_19 : decode b_TR_makeDirectory 19 = .ok (.iload_n 1, 1) := by decide +kernel
theorem d_TR_makeDirectory_20 : decode b_TR_makeDirectory 20 = .ok (.invokevirtual 53, 3) := by decide +kernel
theorem d_TR_makeDirectory_23 : decode b_TR_makeDirectory 23 = .ok (.aload_n 0, 1) := by decide +kernel
theorem d_TR_makeDirectory_24 : decode b_TR_makeDirectory 24 = .ok (.getfield 9, 3) := by decide +kernel
theorem d_TR_makeDirectory_27 : decode b_TR_makeDirectory 27 = .ok (.iload_n 1, 1) := by decide +kernel
theorem d_TR_makeDirectory_28 : decode b_TR_makeDirectory 28 = .ok (.ldc2_w 23, 3) := by decide +kernel
theorem d_TR_makeDirectory_31 : decode b_TR_makeDirectory 31 = .ok (.lastore, 1) := by decide +kernel
theorem d_TR_makeDirectory_32 : decode b_TR_makeDirectory 32 = .ok (.iconst 1, 1) := by decide +kernel
theorem d_TR_makeDirectory_33 : decode b_TR_makeDirectory 33 = .ok (.ireturn, 1) := by decide +kernel
theorem d_TR_removeAll_0 : decode b_TR_removeAll 0 = .ok (.aload_n 0, 1) := by decide +kernel
theorem d_TR_removeAll_1 : decode b_TR_removeAll 1 = .ok (.getfield 9, 3) := by decide +kernel
theorem d_TR_removeAll_4 : decode b_TR_removeAll 4 = .ok (.iload_n 1, 1) := by decide +kernel
theorem d_TR_removeAll_5 : decode b_TR_removeAll 5 = .ok (.laload, 1) := by decide +kernel
theorem d_TR_removeAll_6 : decode b_TR_removeAll 6 = .ok (.ldc2_w 15, 3) := by decide +kernel
theorem d_TR_removeAll_9 : decode b_TR_removeAll 9 = .ok (.lcmp, 1) := by decide +kernel
theorem d_TR_removeAll_10 : decode b_TR_removeAll 10 = .ok (.ifCond .ne 5, 3) := by decide +kernel
theorem d_TR_removeAll_13 : decode b_TR_removeAll 13 = .ok (.iconst 0, 1) := by decide +kernel
theorem d_TR_removeAll_14 : decode b_TR_removeAll 14 = .ok (.ireturn, 1) := by decide +kernel
theorem d_TR_removeAll_15 : decode b_TR_removeAll 15 = .ok (.iload_n 1, 1) := by decide +kernel
theorem d_TR_removeAll_16 : decode b_TR_removeAll 16 = .ok (.invokestatic 60, 3) := by decide +kernel
theorem d_TR_removeAll_19 : decode b_TR_removeAll 19 = .ok (.istore_n 2, 1) := by decide +kernel
theorem d_TR_removeAll_20 : decode b_TR_removeAll 20 = .ok (.iload_n 1, 1) := by decide +kernel
theorem d_TR_removeAll_21 : decode b_TR_removeAll 21 = .ok (.istore_n 3, 1) := by decide +kernel
theorem d_TR_removeAll_22 : decode b_TR_removeAll 22 = .ok (.iload_n 3, 1) := by decide +kernel
theorem d_TR_removeAll_23 : decode b_TR_removeAll 23 = .ok (.iload_n 2, 1) := by decide +kernel
theorem d_TR_removeAll_24 : decode b_TR_removeAll 24 = .ok (.if_icmp .ge 18, 3) := by decide +kernel
theorem d_TR_removeAll_27 : decode b_TR_removeAll 27 = .ok (.aload_n 0, 1) := by decide +kernel
theorem d_TR_removeAll_28 : decode b_TR_removeAll 28 = .ok (.getfield 9, 3) := by decide +kernel
theorem d_TR_removeAll_31 : decode b_TR_removeAll 31 = .ok (.iload_n 3, 1) := by decide +kernel
theorem d_TR_removeAll_32 : decode b_TR_removeAll 32 = .ok (.ldc2_w 15, 3) := by decide +kernel
theorem d_TR_removeAll_35 : decode b_TR_removeAll 35 = .ok (.lastore, 1) := by decide +kernel
theorem d_TR_removeAll_36 : decode b_TR_removeAll 36 = .ok (.iinc 3 1, 3) := by decide +kernel
theorem d_TR_removeAll_39 : decode b_TR_removeAll 39 = .ok (.goto (-17), 3) := by decide +kernel
theorem d_TR_removeAll_42 : decode b_TR_removeAll 42 = .ok (.iconst 1, 1) := by decide +kernel
theorem d_TR_removeAll_43 : decode b_TR_removeAll 43 = .ok (.ireturn, 1) := by decide +kernel
theorem d_PA_end_0 : decode b_PA_end 0 = .ok (.iload_n 0, 1) := by decide +kernel
theorem d_PA_end_1 : decode b_PA_end 1 = .ok (.invokestatic 9, 3) := by decide +kernel
theorem d_PA_end_4 : decode b_PA_end 4 = .ok (.lookupswitch 37 #[(1, 28), (2, 33)], 28) := by decide +kernel
theorem d_PA_end_32 : decode b_PA_end 32 = .ok (.iload_n 0, 1) := by decide +kernel
theorem d_PA_end_33 : decode b_PA_end 33 = .ok (.bipush 25, 2) := by decide +kernel
theorem d_PA_end_35 : decode b_PA_end 35 = .ok (.iadd, 1) := by decide +kernel
theorem d_PA_end_36 : decode b_PA_end 36 = .ok (.ireturn, 1) := by decide +kernel
theorem d_PA_end_37 : decode b_PA_end 37 = .ok (.iload_n 0, 1) := by decide +kernel
theorem d_PA_end_38 : decode b_PA_end 38 = .ok (.iconst 5, 1) := by decide +kernel
theorem d_PA_end_39 : decode b_PA_end 39 = .ok (.iadd, 1) := by decide +kernel
theorem d_PA_end_40 : decode b_PA_end 40 = .ok (.ireturn, 1) := by decide +kernel
theorem d_PA_end_41 : decode b_PA_end 41 = .ok (.iload_n 0, 1) := by decide +kernel
theorem d_PA_end_42 : decode b_PA_end 42 = .ok (.iconst 1, 1) := by decide +kernel
theorem d_PA_end_43 : decode b_PA_end 43 = .ok (.iadd, 1) := by decide +kernel
theorem d_PA_end_44 : decode b_PA_end 44 = .ok (.ireturn, 1) := by decide +kernel
theorem d_TR_copyAll_0 : decode b_TR_copyAll 0 = .ok (.aload_n 0, 1) := by decide +kernel
theorem d_TR_copyAll_1 : decode b_TR_copyAll 1 = .ok (.iload_n 1, 1) := by decide +kernel
theorem d_TR_copyAll_2 : decode b_TR_copyAll 2 = .ok (.iload_n 2, 1) := by decide +kernel
theorem d_TR_copyAll_3 : decode b_TR_copyAll 3 = .ok (.invokevirtual 64, 3) := by decide +kernel
theorem d_TR_copyAll_6 : decode b_TR_copyAll 6 = .ok (.ifCond .ne 5, 3) := by decide +kernel
theorem d_TR_copyAll_9 : decode b_TR_copyAll 9 = .ok (.iconst 0, 1) := by decide +kernel
theorem d_TR_copyAll_10 : decode b_TR_copyAll 10 = .ok (.ireturn, 1) := by decide +kernel
theorem d_TR_copyAll_11 : decode b_TR_copyAll 11 = .ok (.iload_n 1, 1) := by decide +kernel
theorem d_TR_copyAll_12 : decode b_TR_copyAll 12 = .ok (.invokestatic 60, 3) := by decide +kernel
theorem d_TR_copyAll_15 : decode b_TR_copyAll 15 = .ok (.istore_n 3, 1) := by decide +kernel
theorem d_TR_copyAll_16 : decode b_TR_copyAll 16 = .ok (.iload_n 1, 1) := by decide +kernel
theorem d_TR_copyAll_17 : decode b_TR_copyAll 17 = .ok (.istore 4, 2) := by decide +kernel
theorem d_TR_copyAll_19 : decode b_TR_copyAll 19 = .ok (.iload 4, 2) := by decide +kernel
theorem d_TR_copyAll_21 : decode b_TR_copyAll 21 = .ok (.iload_n 3, 1) := by decide +kernel
theorem d_TR_copyAll_22 : decode b_TR_copyAll 22 = .ok (.if_icmp .ge 42, 3) := by decide +kernel
theorem d_TR_copyAll_25 : decode b_TR_copyAll 25 = .ok (.aload_n 0, 1) := by decide +kernel
theorem d_TR_copyAll_26 : decode b_TR_copyAll 26 = .ok (.getfield 9, 3) := by decide +kernel
theorem d_TR_copyAll_29 : decode b_TR_copyAll 29 = .ok (.iload 4, 2) := by decide +kernel
theorem d_TR_copyAll_31 : decode b_TR_copyAll 31 = .ok (.laload, 1) := by decide +kernel
theorem d_TR_copyAll_32 : decode b_TR_copyAll 32 = .ok (.ldc2_w 15, 3) := by decide +kernel
theorem d_TR_copyAll_35 : decode b_TR_copyAll 35 = .ok (.lcmp, 1) := by decide +kernel
theorem d_TR_copyAll_36 : decode b_TR_copyAll 36 = .ok (.ifCond .eq 22, 3) := by decide +kernel
theorem d_TR_copyAll_39 : decode b_TR_copyAll 39 = .ok (.aload_n 0, 1) := by decide +kernel
theorem d_TR_copyAll_40 : decode b_TR_copyAll 40 = .ok (.getfield 9, 3) := by decide +kernel
theorem d_TR_copyAll_43 : decode b_TR_copyAll 43 = .ok (.iload 4, 2) := by decide +kernel
theorem d_TR_copyAll_45 : decode b_TR_copyAll 45 = .ok (.iload_n 1, 1) := by decide +kernel
theorem d_TR_copyAll_46 : decode b_TR_copyAll 46 = .ok (.iload_n 2, 1) := by decide +kernel
theorem d_TR_copyAll_47 : decode b_TR_copyAll 47 = .ok (.invokestatic 67, 3) := by decide +kernel
theorem d_TR_copyAll_50 : decode b_TR_copyAll 50 = .ok (.aload_n 0, 1) := by decide +kernel
theorem d_TR_copyAll_51 : decode b_TR_copyAll 51 = .ok (.getfield 9, 3) := by decide +kernel
theorem d_TR_copyAll_54 : decode b_TR_copyAll 54 = .ok (.iload 4, 2) := by decide +kernel
theorem d_TR_copyAll_56 : decode b_TR_copyAll 56 = .ok (.laload, 1) := by decide +kernel
theorem d_TR_copyAll_57 : decode b_TR_copyAll 57 = .ok (.lastore, 1) := by decide +kernel
theorem d_TR_copyAll_58 : decode b_TR_copyAll 58 = .ok (.iinc 4 1, 3) := by decide +kernel
theorem d_TR_copyAll_61 : decode b_TR_copyAll 61 = .ok (.goto (-42), 3) := by decide +kernel
theorem d_TR_copyAll_64 : decode b_TR_copyAll 64 = .ok (.iconst 1, 1) := by decide +kernel
theorem d_TR_copyAll_65 : decode b_TR_copyAll 65 = .ok (.ireturn, 1) := by decide +kernel
theorem d_TR_mayCopy_0 : decode b_TR_mayCopy 0 = .ok (.iload_n 2, 1) := by decide +kernel
theorem d_TR_mayCopy_1 : decode b_TR_mayCopy 1 = .ok (.invokestatic 31, 3) := by decide +kernel
theorem d_TR_mayCopy_4 : decode b_TR_mayCopy 4 = .ok (.ifCond .eq 29, 3) := by decide +kernel
theorem d_TR_mayCopy_7 : decode b_TR_mayCopy 7 = .ok (.aload_n 0, 1) := by decide +kernel
theorem d_TR_mayCopy_8 : decode b_TR_mayCopy 8 = .ok (.getfield 9, 3) := by decide +kernel
theorem d_TR_mayCopy_11 : decode b_TR_mayCopy 11 = .ok (.iload_n 1, 1) := by decide +kernel
theorem d_TR_mayCopy_12 : decode b_TR_mayCopy 12 = .ok (.laload, 1) := by decide +kernel
theorem d_TR_mayCopy_13 : decode b_TR_mayCopy 13 = .ok (.ldc2_w 15, 3) := by decide +kernel
theorem d_TR_mayCopy_16 : decode b_TR_mayCopy 16 = .ok (.lcmp, 1) := by decide +kernel
theorem d_TR_mayCopy_17 : decode b_TR_mayCopy 17 = .ok (.ifCond .eq 16, 3) := by decide +kernel
theorem d_TR_mayCopy_20 : decode b_TR_mayCopy 20 = .ok (.aload_n 0, 1) := by decide +kernel
theorem d_TR_mayCopy_21 : decode b_TR_mayCopy 21 = .ok (.getfield 9, 3) := by decide +kernel
theorem d_TR_mayCopy_24 : decode b_TR_mayCopy 24 = .ok (.iload_n 2, 1) := by decide +kernel
theorem d_TR_mayCopy_25 : decode b_TR_mayCopy 25 = .ok (.laload, 1) := by decide +kernel
theorem d_TR_mayCopy_26 : decode b_TR_mayCopy 26 = .ok (.ldc2_w 15, 3) := by decide +kernel
theorem d_TR_mayCopy_29 : decode b_TR_mayCopy 29 = .ok (.lcmp, 1) := by decide +kernel
theorem d_TR_mayCopy_30 : decode b_TR_mayCopy 30 = .ok (.ifCond .eq 5, 3) := by decide +kernel
theorem d_TR_mayCopy_33 : decode b_TR_mayCopy 33 = .ok (.iconst 0, 1) := by decide +kernel
theorem d_TR_mayCopy_34 : decode b_TR_mayCopy 34 = .ok (.ireturn, 1) := by decide +kernel
theorem d_TR_mayCopy_35 : decode b_TR_mayCopy 35 = .ok (.iload_n 2, 1) := by decide +kernel
theorem d_TR_mayCopy_36 : decode b_TR_mayCopy 36 = .ok (.iload_n 1, 1) := by decide +kernel
theorem d_TR_mayCopy_37 : decode b_TR_mayCopy 37 = .ok (.if_icmp .lt 15, 3) := by decide +kernel
theorem d_TR_mayCopy_40 : decode b_TR_mayCopy 40 = .ok (.iload_n 2, 1) := by decide +kernel
theorem d_TR_mayCopy_41 : decode b_TR_mayCopy 41 = .ok (.iload_n 1, 1) := by decide +kernel
theorem d_TR_mayCopy_42 : decode b_TR_mayCopy 42 = .ok (.invokestatic 60, 3) := by decide +kernel
theorem d_TR_mayCopy_45 : decode b_TR_mayCopy 45 = .ok (.if_icmp .ge 7, 3) := by decide +kernel
theorem d_TR_mayCopy_48 : decode b_TR_mayCopy 48 = .ok (.iconst 1, 1) := by decide +kernel
theorem d_TR_mayCopy_49 : decode b_TR_mayCopy 49 = .ok (.goto 4, 3) := by decide +kernel
theorem d_TR_mayCopy_52 : decode b_TR_mayCopy 52 = .ok (.iconst 0, 1) := by decide +kernel
theorem d_TR_mayCopy_53 : decode b_TR_mayCopy 53 = .ok (.istore_n 3, 1) := by decide +kernel
theorem d_TR_mayCopy_54 : decode b_TR_mayCopy 54 = .ok (.iload_n 3, 1) := by decide +kernel
theorem d_TR_mayCopy_55 : decode b_TR_mayCopy 55 = .ok (.ifCond .ne 32, 3) := by decide +kernel
theorem d_TR_mayCopy_58 : decode b_TR_mayCopy 58 = .ok (.aload_n 0, 1) := by decide +kernel
theorem d_TR_mayCopy_59 : decode b_TR_mayCopy 59 = .ok (.getfield 9, 3) := by decide +kernel
theorem d_TR_mayCopy_62 : decode b_TR_mayCopy 62 = .ok (.iload_n 2, 1) := by decide +kernel
theorem d_TR_mayCopy_63 : decode b_TR_mayCopy 63 = .ok (.invokestatic 71, 3) := by decide +kernel
theorem d_TR_mayCopy_66 : decode b_TR_mayCopy 66 = .ok (.laload, 1) := by decide +kernel
theorem d_TR_mayCopy_67 : decode b_TR_mayCopy 67 = .ok (.ldc2_w 23, 3) := by decide +kernel
theorem d_TR_mayCopy_70 : decode b_TR_mayCopy 70 = .ok (.lcmp, 1) := by decide +kernel
theorem d_TR_mayCopy_71 : decode b_TR_mayCopy 71 = .ok (.ifCond .ne 16, 3) := by decide +kernel
theorem d_TR_mayCopy_74 : decode b_TR_mayCopy 74 = .ok (.aload_n 0, 1) := by decide +kernel
theorem d_TR_mayCopy_75 : decode b_TR_mayCopy 75 = .ok (.iload_n 1, 1) := by decide +kernel
theorem d_TR_mayCopy_76 : decode b_TR_mayCopy 76 = .ok (.iload_n 2, 1) := by decide +kernel
theorem d_TR_mayCopy_77 : decode b_TR_mayCopy 77 = .ok (.invokevirtual 74, 3) := by decide +kernel
theorem d_TR_mayCopy_80 : decode b_TR_mayCopy 80 = .ok (.ifCond .eq 7, 3) := by decide +kernel
theorem d_TR_mayCopy_83 : decode b_TR_mayCopy 83 = .ok (.iconst 1, 1) := by decide +kernel
theorem d_TR_mayCopy_84 : decode b_TR_mayCopy 84 = .ok (.goto 4, 3) := by decide +kernel
theorem d_TR_mayCopy_87 : decode b_TR_mayCopy 87 = .ok (.iconst 0, 1) := by decide +kernel
theorem d_TR_mayCopy_88 : decode b_TR_mayCopy 88 = .ok (.ireturn, 1) := by decide +kernel
theorem d_TR_fitsAt_0 : decode b_TR_fitsAt 0 = .ok (.iload_n 1, 1) := by decide +kernel
theorem d_TR_fitsAt_1 : decode b_TR_fitsAt 1 = .ok (.invokestatic 60, 3) := by decide +kernel
theorem d_TR_fitsAt_4 : decode b_TR_fitsAt 4 = .ok (.istore_n 3, 1) := by decide +kernel
theorem d_TR_fitsAt_5 : decode b_TR_fitsAt 5 = .ok (.iload_n 1, 1) := by decide +kernel
theorem d_TR_fitsAt_6 : decode b_TR_fitsAt 6 = .ok (.istore 4, 2) := by decide +kernel
theorem d_TR_fitsAt_8 : decode b_TR_fitsAt 8 = .ok (.iload 4, 2) := by decide +kernel
theorem d_TR_fitsAt_10 : decode b_TR_fitsAt 10 = .ok (.iload_n 3, 1) := by decide +kernel
theorem d_TR_fitsAt_11 : decode b_TR_fitsAt 11 = .ok (.if_icmp .ge 36, 3) := by decide +kernel
theorem d_TR_fitsAt_14 : decode b_TR_fitsAt 14 = .ok (.aload_n 0, 1) := by decide +kernel
theorem d_TR_fitsAt_15 : decode b_TR_fitsAt 15 = .ok (.getfield 9, 3) := by decide +kernel
theorem d_TR_fitsAt_18 : decode b_TR_fitsAt 18 = .ok (.iload 4, 2) := by decide +kernel
theorem d_TR_fitsAt_20 : decode b_TR_fitsAt 20 = .ok (.laload, 1) := by decide +kernel
theorem d_TR_fitsAt_21 : decode b_TR_fitsAt 21 = .ok (.ldc2_w 15, 3) := by decide +kernel
theorem d_TR_fitsAt_24 : decode b_TR_fitsAt 24 = .ok (.lcmp, 1) := by decide +kernel
theorem d_TR_fitsAt_25 : decode b_TR_fitsAt 25 = .ok (.ifCond .eq 16, 3) := by decide +kernel
theorem d_TR_fitsAt_28 : decode b_TR_fitsAt 28 = .ok (.iload 4, 2) := by decide +kernel
theorem d_TR_fitsAt_30 : decode b_TR_fitsAt 30 = .ok (.iload_n 1, 1) := by decide +kernel
theorem d_TR_fitsAt_31 : decode b_TR_fitsAt 31 = .ok (.iload_n 2, 1) := by decide +kernel
theorem d_TR_fitsAt_32 : decode b_TR_fitsAt 32 = .ok (.invokestatic 77, 3) := by decide +kernel
theorem d_TR_fitsAt_35 : decode b_TR_fitsAt 35 = .ok (.iconst 3, 1) := by decide +kernel
theorem d_TR_fitsAt_36 : decode b_TR_fitsAt 36 = .ok (.if_icmp .le 5, 3) := by decide +kernel
theorem d_TR_fitsAt_39 : decode b_TR_fitsAt 39 = .ok (.iconst 0, 1) := by decide +kernel
theorem d_TR_fitsAt_40 : decode b_TR_fitsAt 40 = .ok (.ireturn, 1) := by decide +kernel
theorem d_TR_fitsAt_41 : decode b_TR_fitsAt 41 = .ok (.iinc 4 1, 3) := by decide +kernel
theorem d_TR_fitsAt_44 : decode b_TR_fitsAt 44 = .ok (.goto (-36), 3) := by decide +kernel
theorem d_TR_fitsAt_47 : decode b_TR_fitsAt 47 = .ok (.iconst 1, 1) := by decide +kernel
theorem d_TR_fitsAt_48 : decode b_TR_fitsAt 48 = .ok (.ireturn, 1) := by decide +kernel
theorem d_PA_namesWhenPut_0 : decode b_PA_namesWhenPut 0 = .ok (.iload_n 0, 1) := by decide +kernel
theorem d_PA_namesWhenPut_1 : decode b_PA_namesWhenPut 1 = .ok (.invokestatic 9, 3) := by decide +kernel
theorem d_PA_namesWhenPut_4 : decode b_PA_namesWhenPut 4 = .ok (.iload_n 1, 1) := by decide +kernel
theorem d_PA_namesWhenPut_5 : decode b_PA_namesWhenPut 5 = .ok (.invokestatic 9, 3) := by decide +kernel
theorem d_PA_namesWhenPut_8 : decode b_PA_namesWhenPut 8 = .ok (.isub, 1) := by decide +kernel
theorem d_PA_namesWhenPut_9 : decode b_PA_namesWhenPut 9 = .ok (.iload_n 2, 1) := by decide +kernel
theorem d_PA_namesWhenPut_10 : decode b_PA_namesWhenPut 10 = .ok (.invokestatic 9, 3) := by decide +kernel
theorem d_PA_namesWhenPut_13 : decode b_PA_namesWhenPut 13 = .ok (.iadd, 1) := by decide +kernel
theorem d_PA_namesWhenPut_14 : decode b_PA_namesWhenPut 14 = .ok (.ireturn, 1) := by decide +kernel
theorem d_PA_whenPut_0 : decode b_PA_whenPut 0 = .ok (.iload_n 0, 1) := by decide +kernel
theorem d_PA_whenPut_1 : decode b_PA_whenPut 1 = .ok (.iload_n 1, 1) := by decide +kernel
theorem d_PA_whenPut_2 : decode b_PA_whenPut 2 = .ok (.isub, 1) := by decide +kernel
theorem d_PA_whenPut_3 : decode b_PA_whenPut 3 = .ok (.istore_n 3, 1) := by decide +kernel
theorem d_PA_whenPut_4 : decode b_PA_whenPut 4 = .ok (.iload_n 2, 1) := by decide +kernel
theorem d_PA_whenPut_5 : decode b_PA_whenPut 5 = .ok (.invokestatic 9, 3) := by decide +kernel
theorem d_PA_whenPut_8 : decode b_PA_whenPut 8 = .ok (.iload_n 1, 1) := by decide +kernel
theorem d_PA_whenPut_9 : decode b_PA_whenPut 9 = .ok (.invokestatic 9, 3) := by decide +kernel
theorem d_PA_whenPut_12 : decode b_PA_whenPut 12 = .ok (.isub, 1) := by decide +kernel
theorem d_PA_whenPut_13 : decode b_PA_whenPut 13 = .ok (.istore 4, 2) := by decide +kernel
theorem d_PA_whenPut_15 : decode b_PA_whenPut 15 = .ok (.iconst 0, 1) := by decide +kernel
theorem d_PA_whenPut_16 : decode b_PA_whenPut 16 = .ok (.istore 5, 2) := by decide +kernel
theorem d_PA_whenPut_18 : decode b_PA_whenPut 18 = .ok (.iload 5, 2) := by decide +kernel
theorem d_PA_whenPut_20 : decode b_PA_whenPut 20 = .ok (.iload 4, 2) := by decide +kernel
theorem d_PA_whenPut_22 : decode b_PA_whenPut 22 = .ok (.if_icmp .ge 13, 3) := by decide +kernel
theorem d_PA_whenPut_25 : decode b_PA_whenPut 25 = .ok (.iload_n 3, 1) := by decide +kernel
theorem d_PA_whenPut_26 : decode b_PA_whenPut 26 = .ok (.iconst 5, 1) := by decide +kernel
theorem d_PA_whenPut_27 : decode b_PA_whenPut 27 = .ok (.idiv, 1) := by decide +kernel
theorem d_PA_whenPut_28 : decode b_PA_whenPut 28 = .ok (.istore_n 3, 1) := by decide +kernel
theorem d_PA_whenPut_29 : decode b_PA_whenPut 29 = .ok (.iinc 5 1, 3) := by decide +kernel
theorem d_PA_whenPut_32 : decode b_PA_whenPut 32 = .ok (.goto (-14), 3) := by decide +kernel
theorem d_PA_whenPut_35 : decode b_PA_whenPut 35 = .ok (.iload 4, 2) := by decide +kernel
theorem d_PA_whenPut_37 : decode b_PA_whenPut 37 = .ok (.istore 5, 2) := by decide +kernel
theorem d_PA_whenPut_39 : decode b_PA_whenPut 39 = .ok (.iload 5, 2) := by decide +kernel
theorem d_PA_whenPut_41 : decode b_PA_whenPut 41 = .ok (.ifCond .ge 13, 3) := by decide +kernel
theorem d_PA_whenPut_44 : decode b_PA_whenPut 44 = .ok (.iload_n 3, 1) := by decide +kernel
theorem d_PA_whenPut_45 : decode b_PA_whenPut 45 = .ok (.iconst 5, 1) := by decide +kernel
theorem d_PA_whenPut_46 : decode b_PA_whenPut 46 = .ok (.imul, 1) := by decide +kernel
theorem d_PA_whenPut_47 : decode b_PA_whenPut 47 = .ok (.istore_n 3, 1) := by decide +kernel
theorem d_PA_whenPut_48 : decode b_PA_whenPut 48 = .ok (.iinc 5 1, 3) := by decide +kernel
theorem d_PA_whenPut_51 : decode b_PA_whenPut 51 = .ok (.goto (-12), 3) := by decide +kernel
theorem d_PA_whenPut_54 : decode b_PA_whenPut 54 = .ok (.iload_n 2, 1) := by decide +kernel
theorem d_PA_whenPut_55 : decode b_PA_whenPut 55 = .ok (.iload_n 3, 1) := by decide +kernel
theorem d_PA_whenPut_56 : decode b_PA_whenPut 56 = .ok (.iadd, 1) := by decide +kernel
theorem d_PA_whenPut_57 : decode b_PA_whenPut 57 = .ok (.ireturn, 1) := by decide +kernel
theorem d_IS_answerDraftOn_0 : decode b_IS_answerDraftOn 0 = .ok (.aload_n 0, 1) := by decide +kernel
theorem d_IS_answerDraftOn_1 : decode b_IS_answerDraftOn 1 = .ok (.getfield 32, 3) := by decide +kernel
theorem d_IS_answerDraftOn_4 : decode b_IS_answerDraftOn 4 = .ok (.aload_n 0, 1) := by decide +kernel
theorem d_IS_answerDraftOn_5 : decode b_IS_answerDraftOn 5 = .ok (.getfield 10, 3) := by decide +kernel
theorem d_IS_answerDraftOn_8 : decode b_IS_answerDraftOn 8 = .ok (.iload_n 1, 1) := by decide +kernel
theorem d_IS_answerDraftOn_9 : decode b_IS_answerDraftOn 9 = .ok (.invokevirtual 60, 3) := by decide +kernel
theorem d_IS_answerDraftOn_12 : decode b_IS_answerDraftOn 12 = .ok (.checkcast 44, 3) := by decide +kernel
theorem d_IS_answerDraftOn_15 : decode b_IS_answerDraftOn 15 = .ok (.getfield 64, 3) := by decide +kernel
theorem d_IS_answerDraftOn_18 : decode b_IS_answerDraftOn 18 = .ok (.invokevirtual 165, 3) := by decide +kernel
theorem d_IS_answerDraftOn_21 : decode b_IS_answerDraftOn 21 = .ok (.ifCond .eq 9, 3) := by decide +kernel
theorem d_IS_answerDraftOn_24 : decode b_IS_answerDraftOn 24 = .ok (.aload_n 0, 1) := by decide +kernel
theorem d_IS_answerDraftOn_25 : decode b_IS_answerDraftOn 25 = .ok (.iload_n 1, 1) := by decide +kernel
theorem d_IS_answerDraftOn_26 : decode b_IS_answerDraftOn 26 = .ok (.invokevirtual 169, 3) := by decide +kernel
theorem d_IS_answerDraftOn_29 : decode b_IS_answerDraftOn 29 = .ok (.ireturn, 1) := by decide +kernel
theorem d_IS_answerDraftOn_30 : decode b_IS_answerDraftOn 30 = .ok (.iconst 0, 1) := by decide +kernel
theorem d_IS_answerDraftOn_31 : decode b_IS_answerDraftOn 31 = .ok (.istore_n 2, 1) := by decide +kernel
theorem d_IS_answerDraftOn_32 : decode b_IS_answerDraftOn 32 = .ok (.iload_n 2, 1) := by decide +kernel
theorem d_IS_answerDraftOn_33 : decode b_IS_answerDraftOn 33 = .ok (.aload_n 0, 1) := by decide +kernel
theorem d_IS_answerDraftOn_34 : decode b_IS_answerDraftOn 34 = .ok (.getfield 10, 3) := by decide +kernel
theorem d_IS_answerDraftOn_37 : decode b_IS_answerDraftOn 37 = .ok (.invokevirtual 161, 3) := by decide +kernel
theorem d_IS_answerDraftOn_40 : decode b_IS_answerDraftOn 40 = .ok (.if_icmp .ge 57, 3) := by decide +kernel
theorem d_IS_answerDraftOn_43 : decode b_IS_answerDraftOn 43 = .ok (.aload_n 0, 1) := by decide +kernel
theorem d_IS_answerDraftOn_44 : decode b_IS_answerDraftOn 44 = .ok (.getfield 10, 3) := by decide +kernel
theorem d_IS_answerDraftOn_47 : decode b_IS_answerDraftOn 47 = .ok (.iload_n 2, 1) := by decide +kernel
theorem d_IS_answerDraftOn_48 : decode b_IS_answerDraftOn 48 = .ok (.invokevirtual 60, 3) := by decide +kernel
theorem d_IS_answerDraftOn_51 : decode b_IS_answerDraftOn 51 = .ok (.checkcast 44, 3) := by decide +kernel
theorem d_IS_answerDraftOn_54 : decode b_IS_answerDraftOn 54 = .ok (.getfield 172, 3) := by decide +kernel
theorem d_IS_answerDraftOn_57 : decode b_IS_answerDraftOn 57 = .ok (.iload_n 1, 1) := by decide +kernel
theorem d_IS_answerDraftOn_58 : decode b_IS_answerDraftOn 58 = .ok (.if_icmp .ne 33, 3) := by decide +kernel
theorem d_IS_answerDraftOn_61 : decode b_IS_answerDraftOn 61 = .ok (.aload_n 0, 1) := by decide +kernel
theorem d_IS_answerDraftOn_62 : decode b_IS_answerDraftOn 62 = .ok (.getfield 32, 3) := by decide +kernel
theorem d_IS_answerDraftOn_65 : decode b_IS_answerDraftOn 65 = .ok (.aload_n 0, 1) := by decide +kernel
theorem d_IS_answerDraftOn_66 : decode b_IS_answerDraftOn 66 = .ok (.getfield 10, 3) := by decide +kernel
theorem d_IS_answerDraftOn_69 : decode b_IS_answerDraftOn 69 = .ok (.iload_n 2, 1) := by decide +kernel
theorem d_IS_answerDraftOn_70 : decode b_IS_answerDraftOn 70 = .ok (.invokevirtual 60, 3) := by decide +kernel
theorem d_IS_answerDraftOn_73 : decode b_IS_answerDraftOn 73 = .ok (.checkcast 44, 3) := by decide +kernel
theorem d_IS_answerDraftOn_76 : decode b_IS_answerDraftOn 76 = .ok (.getfield 64, 3) := by decide +kernel
theorem d_IS_answerDraftOn_79 : decode b_IS_answerDraftOn 79 = .ok (.invokevirtual 165, 3) := by decide +kernel
theorem d_IS_answerDraftOn_82 : decode b_IS_answerDraftOn 82 = .ok (.ifCond .eq 9, 3) := by decide +kernel
theorem d_IS_answerDraftOn_85 : decode b_IS_answerDraftOn 85 = .ok (.aload_n 0, 1) := by decide +kernel
theorem d_IS_answerDraftOn_86 : decode b_IS_answerDraftOn 86 = .ok (.iload_n 2, 1) := by decide +kernel
theorem d_IS_answerDraftOn_87 : decode b_IS_answerDraftOn 87 = .ok (.invokevirtual 169, 3) := by decide +kernel
theorem d_IS_answerDraftOn_90 : decode b_IS_answerDraftOn 90 = .ok (.ireturn, 1) := by decide +kernel
theorem d_IS_answerDraftOn_91 : decode b_IS_answerDraftOn 91 = .ok (.iinc 2 1, 3) := by decide +kernel
theorem d_IS_answerDraftOn_94 : decode b_IS_answerDraftOn 94 = .ok (.goto (-62), 3) := by decide +kernel
theorem d_IS_answerDraftOn_97 : decode b_IS_answerDraftOn 97 = .ok (.aload_n 0, 1) := by decide +kernel
theorem d_IS_answerDraftOn_98 : decode b_IS_answerDraftOn 98 = .ok (.getfield 10, 3) := by decide +kernel
theorem d_IS_answerDraftOn_101 : decode b_IS_answerDraftOn 101 = .ok (.invokevirtual 161, 3) := by decide +kernel
theorem d_IS_answerDraftOn_104 : decode b_IS_answerDraftOn 104 = .ok (.bipush 40, 2) := by decide +kernel
theorem d_IS_answerDraftOn_106 : decode b_IS_answerDraftOn 106 = .ok (.if_icmp .lt 6, 3) := by decide +kernel
theorem d_IS_answerDraftOn_109 : decode b_IS_answerDraftOn 109 = .ok (.bipush (-2), 2) := by decide +kernel
theorem d_IS_answerDraftOn_111 : decode b_IS_answerDraftOn 111 = .ok (.ireturn, 1) := by decide +kernel
theorem d_IS_answerDraftOn_112 : decode b_IS_answerDraftOn 112 = .ok (.aload_n 0, 1) := by decide +kernel
theorem d_IS_answerDraftOn_113 : decode b_IS_answerDraftOn 113 = .ok (.getfield 10, 3) := by decide +kernel
theorem d_IS_answerDraftOn_116 : decode b_IS_answerDraftOn 116 = .ok (.aload_n 0, 1) := by decide +kernel
theorem d_IS_answerDraftOn_117 : decode b_IS_answerDraftOn 117 = .ok (.iload_n 1, 1) := by decide +kernel
theorem d_IS_answerDraftOn_118 : decode b_IS_answerDraftOn 118 = .ok (.invokevirtual 175, 3) := by decide +kernel
theorem d_IS_answerDraftOn_121 : decode b_IS_answerDraftOn 121 = .ok (.invokevirtual 49, 3) := by decide +kernel
theorem d_IS_answerDraftOn_124 : decode b_IS_answerDraftOn 124 = .ok (.pop, 1) := by decide +kernel
theorem d_IS_answerDraftOn_125 : decode b_IS_answerDraftOn 125 = .ok (.aload_n 0, 1) := by decide +kernel
theorem d_IS_answerDraftOn_126 : decode b_IS_answerDraftOn 126 = .ok (.aload_n 0, 1) := by decide +kernel
theorem d_IS_answerDraftOn_127 : decode b_IS_answerDraftOn 127 = .ok (.getfield 10, 3) := by decide +kernel
theorem d_IS_answerDraftOn_130 : decode b_IS_answerDraftOn 130 = .ok (.invokevirtual 161, 3) := by decide +kernel
theorem d_IS_answerDraftOn_133 : decode b_IS_answerDraftOn 133 = .ok (.iconst 1, 1) := by decide +kernel
theorem d_IS_answerDraftOn_134 : decode b_IS_answerDraftOn 134 = .ok (.isub, 1) := by decide +kernel
theorem d_IS_answerDraftOn_135 : decode b_IS_answerDraftOn 135 = .ok (.invokevirtual 169, 3) := by decide +kernel
theorem d_IS_answerDraftOn_138 : decode b_IS_answerDraftOn 138 = .ok (.ireturn, 1) := by decide +kernel
theorem d_TR_sameAs_0 : decode b_TR_sameAs 0 = .ok (.iconst 0, 1) := by decide +kernel
theorem d_TR_sameAs_1 : decode b_TR_sameAs 1 = .ok (.istore_n 2, 1) := by decide +kernel
theorem d_TR_sameAs_2 : decode b_TR_sameAs 2 = .ok (.iload_n 2, 1) := by decide +kernel
theorem d_TR_sameAs_3 : decode b_TR_sameAs 3 = .ok (.bipush 125, 2) := by decide +kernel
theorem d_TR_sameAs_5 : decode b_TR_sameAs 5 = .ok (.if_icmp .ge 27, 3) := by decide +kernel
theorem d_TR_sameAs_8 : decode b_TR_sameAs 8 = .ok (.aload_n 0, 1) := by decide +kernel
theorem d_TR_sameAs_9 : decode b_TR_sameAs 9 = .ok (.getfield 9, 3) := by decide +kernel
theorem d_TR_sameAs_12 : decode b_TR_sameAs 12 = .ok (.iload_n 2, 1) := by decide +kernel
theorem d_TR_sameAs_13 : decode b_TR_sameAs 13 = .ok (.laload, 1) := by decide +kernel
theorem d_TR_sameAs_14 : decode b_TR_sameAs 14 = .ok (.aload_n 1, 1) := by decide +kernel
theorem d_TR_sameAs_15 : decode b_TR_sameAs 15 = .ok (.getfield 9, 3) := by decide +kernel
theorem d_TR_sameAs_18 : decode b_TR_sameAs 18 = .ok (.iload_n 2, 1) := by decide +kernel
theorem d_TR_sameAs_19 : decode b_TR_sameAs 19 = .ok (.laload, 1) := by decide +kernel
theorem d_TR_sameAs_20 : decode b_TR_sameAs 20 = .ok (.lcmp, 1) := by decide +kernel
theorem d_TR_sameAs_21 : decode b_TR_sameAs 21 = .ok (.ifCond .eq 5, 3) := by decide +kernel
theorem d_TR_sameAs_24 : decode b_TR_sameAs 24 = .ok (.iconst 0, 1) := by decide +kernel
theorem d_TR_sameAs_25 : decode b_TR_sameAs 25 = .ok (.ireturn, 1) := by decide +kernel
theorem d_TR_sameAs_26 : decode b_TR_sameAs 26 = .ok (.iinc 2 1, 3) := by decide +kernel
theorem d_TR_sameAs_29 : decode b_TR_sameAs 29 = .ok (.goto (-27), 3) := by decide +kernel
theorem d_TR_sameAs_32 : decode b_TR_sameAs 32 = .ok (.iconst 1, 1) := by decide +kernel
theorem d_TR_sameAs_33 : decode b_TR_sameAs 33 = .ok (.ireturn, 1) := by decide +kernel
end
section
theorem d_IS_answerHeld_0 : decode b_IS_answerHeld 0 = .ok (.aload_n 0, 1) := by decide +kernel
theorem d_IS_answerHeld_1 : decode b_IS_answerHeld 1 = .ok (.getfield 22, 3) := by decide +kernel
theorem d_IS_answerHeld_4 : decode b_IS_answerHeld 4 = .ok (.iload_n 1, 1) := by decide +kernel
theorem d_IS_answerHeld_5 : decode b_IS_answerHeld 5 = .ok (.invokevirtual 57, 3) := by decide +kernel
theorem d_IS_answerHeld_8 : decode b_IS_answerHeld 8 = .ok (.ifCond .eq 13, 3) := by decide +kernel
theorem d_IS_answerHeld_11 : decode b_IS_answerHeld 11 = .ok (.aload_n 0, 1) := by decide +kernel
theorem d_IS_answerHeld_12 : decode b_IS_answerHeld 12 = .ok (.dup, 1) := by decide +kernel
theorem d_IS_answerHeld_13 : decode b_IS_answerHeld 13 = .ok (.getfield 40, 3) := by decide +kernel
theorem d_IS_answerHeld_16 : decode b_IS_answerHeld 16 = .ok (.iconst 1, 1) := by decide +kernel
theorem d_IS_answerHeld_17 : decode b_IS_answerHeld 17 = .ok (.iadd, 1) := by decide +kernel
theorem d_IS_answerHeld_18 : decode b_IS_answerHeld 18 = .ok (.putfield 40, 3) := by decide +kernel
theorem d_IS_answerHeld_21 : decode b_IS_answerHeld 21 = .ok (.aload_n 0, 1) := by decide +kernel
theorem d_IS_answerHeld_22 : decode b_IS_answerHeld 22 = .ok (.getfield 22, 3) := by decide +kernel
theorem d_IS_answerHeld_25 : decode b_IS_answerHeld 25 = .ok (.iload_n 1, 1) := by decide +kernel
theorem d_IS_answerHeld_26 : decode b_IS_answerHeld 26 = .ok (.invokevirtual 104, 3) := by decide +kernel
theorem d_IS_answerHeld_29 : decode b_IS_answerHeld 29 = .ok (.iload_n 1, 1) := by decide +kernel
theorem d_IS_answerHeld_30 : decode b_IS_answerHeld 30 = .ok (.ireturn, 1) := by decide +kernel
theorem d_ST_hold_0 : decode b_ST_hold 0 = .ok (.iload_n 1, 1) := by decide +kernel
theorem d_ST_hold_1 : decode b_ST_hold 1 = .ok (.ifCond .lt 16, 3) := by decide +kernel
theorem d_ST_hold_4 : decode b_ST_hold 4 = .ok (.iload_n 1, 1) := by decide +kernel
theorem d_ST_hold_5 : decode b_ST_hold 5 = .ok (.bipush 40, 2) := by decide +kernel
theorem d_ST_hold_7 : decode b_ST_hold 7 = .ok (.if_icmp .ge 10, 3) := by decide +kernel
theorem d_ST_hold_10 : decode b_ST_hold 10 = .ok (.aload_n 0, 1) := by decide +kernel
theorem d_ST_hold_11 : decode b_ST_hold 11 = .ok (.getfield 9, 3) := by decide +kernel
theorem d_ST_hold_14 : decode b_ST_hold 14 = .ok (.iload_n 1, 1) := by decide +kernel
theorem d_ST_hold_15 : decode b_ST_hold 15 = .ok (.iconst 1, 1) := by decide +kernel
theorem d_ST_hold_16 : decode b_ST_hold 16 = .ok (.bastore, 1) := by decide +kernel
theorem d_ST_hold_17 : decode b_ST_hold 17 = .ok (.return_, 1) := by decide +kernel
theorem d_IS_newImageOn_0 : decode b_IS_newImageOn 0 = .ok (.aload_n 0, 1) := by decide +kernel
theorem d_IS_newImageOn_1 : decode b_IS_newImageOn 1 = .ok (.getfield 10, 3) := by decide +kernel
theorem d_IS_newImageOn_4 : decode b_IS_newImageOn 4 = .ok (.iload_n 1, 1) := by decide +kernel
theorem d_IS_newImageOn_5 : decode b_IS_newImageOn 5 = .ok (.invokevirtual 60, 3) := by decide +kernel
theorem d_IS_newImageOn_8 : decode b_IS_newImageOn 8 = .ok (.checkcast 44, 3) := by decide +kernel
theorem d_IS_newImageOn_11 : decode b_IS_newImageOn 11 = .ok (.astore_n 2, 1) := by decide +kernel
theorem d_IS_newImageOn_12 : decode b_IS_newImageOn 12 = .ok (.new 29, 3) := by decide +kernel
theorem d_IS_newImageOn_15 : decode b_IS_newImageOn 15 = .ok (.dup, 1) := by decide +kernel
theorem d_IS_newImageOn_16 : decode b_IS_newImageOn 16 = .ok (.invokespecial 31, 3) := by decide +kernel
theorem d_IS_newImageOn_19 : decode b_IS_newImageOn 19 = .ok (.astore_n 3, 1) := by decide +kernel
theorem d_IS_newImageOn_20 : decode b_IS_newImageOn 20 = .ok (.aload_n 3, 1) := by decide +kernel
theorem d_IS_newImageOn_21 : decode b_IS_newImageOn 21 = .ok (.aload_n 0, 1) := by decide +kernel
theorem d_IS_newImageOn_22 : decode b_IS_newImageOn 22 = .ok (.getfield 32, 3) := by decide +kernel
theorem d_IS_newImageOn_25 : decode b_IS_newImageOn 25 = .ok (.invokevirtual 67, 3) := by decide +kernel
theorem d_IS_newImageOn_28 : decode b_IS_newImageOn 28 = .ok (.aload_n 2, 1) := by decide +kernel
theorem d_IS_newImageOn_29 : decode b_IS_newImageOn 29 = .ok (.getfield 125, 3) := by decide +kernel
theorem d_IS_newImageOn_32 : decode b_IS_newImageOn 32 = .ok (.arraylength, 1) := by decide +kernel
theorem d_IS_newImageOn_33 : decode b_IS_newImageOn 33 = .ok (.istore 4, 2) := by decide +kernel
theorem d_IS_newImageOn_35 : decode b_IS_newImageOn 35 = .ok (.aload_n 2, 1) := by decide +kernel
theorem d_IS_newImageOn_36 : decode b_IS_newImageOn 36 = .ok (.getfield 125, 3) := by decide +kernel
theorem d_IS_newImageOn_39 : decode b_IS_newImageOn 39 = .ok (.iload 4, 2) := by decide +kernel
theorem d_IS_newImageOn_41 : decode b_IS_newImageOn 41 = .ok (.iconst 1, 1) := by decide +kernel
theorem d_IS_newImageOn_42 : decode b_IS_newImageOn 42 = .ok (.iadd, 1) := by decide +kernel
theorem d_IS_newImageOn_43 : decode b_IS_newImageOn 43 = .ok (.invokestatic 179, 3) := by decide +kernel
theorem d_IS_newImageOn_46 : decode b_IS_newImageOn 46 = .ok (.astore 5, 2) := by decide +kernel
theorem d_IS_newImageOn_48 : decode b_IS_newImageOn 48 = .ok (.aload 5, 2) := by decide +kernel
theorem d_IS_newImageOn_50 : decode b_IS_newImageOn 50 = .ok (.iload 4, 2) := by decide +kernel
theorem d_IS_newImageOn_52 : decode b_IS_newImageOn 52 = .ok (.aload_n 0, 1) := by decide +kernel
theorem d_IS_newImageOn_53 : decode b_IS_newImageOn 53 = .ok (.new 137, 3) := by decide +kernel
theorem d_IS_newImageOn_56 : decode b_IS_newImageOn 56 = .ok (.dup, 1) := by decide +kernel
theorem d_IS_newImageOn_57 : decode b_IS_newImageOn 57 = .ok (.aload_n 2, 1) := by decide +kernel
theorem d_IS_newImageOn_58 : decode b_IS_newImageOn 58 = .ok (.getfield 64, 3) := by decide +kernel
theorem d_IS_newImageOn_61 : decode b_IS_newImageOn 61 = .ok (.aload_n 3, 1) := by decide +kernel
theorem d_IS_newImageOn_62 : decode b_IS_newImageOn 62 = .ok (.invokespecial 185, 3) := by decide +kernel
theorem d_IS_newImageOn_65 : decode b_IS_newImageOn 65 = .ok (.invokevirtual 188, 3) := by decide +kernel
theorem d_IS_newImageOn_68 : decode b_IS_newImageOn 68 = .ok (.iastore, 1) := by decide +kernel
theorem d_IS_newImageOn_69 : decode b_IS_newImageOn 69 = .ok (.new 44, 3) := by decide +kernel
theorem d_IS_newImageOn_72 : decode b_IS_newImageOn 72 = .ok (.dup, 1) := by decide +kernel
theorem d_IS_newImageOn_73 : decode b_IS_newImageOn 73 = .ok (.iload_n 1, 1) := by decide +kernel
theorem d_IS_newImageOn_74 : decode b_IS_newImageOn 74 = .ok (.aload_n 3, 1) := by decide +kernel
theorem d_IS_newImageOn_75 : decode b_IS_newImageOn 75 = .ok (.aload 5, 2) := by decide +kernel
theorem d_IS_newImageOn_77 : decode b_IS_newImageOn 77 = .ok (.invokespecial 46, 3) := by decide +kernel
theorem d_IS_newImageOn_80 : decode b_IS_newImageOn 80 = .ok (.areturn, 1) := by decide +kernel
theorem d_AR_copyOfI_0 : decode b_AR_copyOfI 0 = .ok (.iload_n 1, 1) := by decide +kernel
theorem d_AR_copyOfI_1 : decode b_AR_copyOfI 1 = .ok (.aload_n 0, 1) := by decide +kernel
theorem d_AR_copyOfI_2 : decode b_AR_copyOfI 2 = .ok (.arraylength, 1) := by decide +kernel
theorem d_AR_copyOfI_3 : decode b_AR_copyOfI 3 = .ok (.if_icmp .ne 11, 3) := by decide +kernel
theorem d_AR_copyOfI_6 : decode b_AR_copyOfI 6 = .ok (.aload_n 0, 1) := by decide +kernel
theorem d_AR_copyOfI_7 : decode b_AR_copyOfI 7 = .ok (.invokevirtual 316, 3) := by decide +kernel
theorem d_AR_copyOfI_10 : decode b_AR_copyOfI 10 = .ok (.checkcast 317, 3) := by decide +kernel
theorem d_AR_copyOfI_13 : decode b_AR_copyOfI 13 = .ok (.areturn, 1) := by decide +kernel
theorem d_AR_copyOfI_14 : decode b_AR_copyOfI 14 = .ok (.iload_n 1, 1) := by decide +kernel
theorem d_AR_copyOfI_15 : decode b_AR_copyOfI 15 = .ok (.newarray .int, 2) := by decide +kernel
theorem d_AR_copyOfI_17 : decode b_AR_copyOfI 17 = .ok (.astore_n 2, 1) := by decide +kernel
theorem d_AR_copyOfI_18 : decode b_AR_copyOfI 18 = .ok (.aload_n 0, 1) := by decide +kernel
theorem d_AR_copyOfI_19 : decode b_AR_copyOfI 19 = .ok (.iconst 0, 1) := by decide +kernel
theorem d_AR_copyOfI_20 : decode b_AR_copyOfI 20 = .ok (.aload_n 2, 1) := by decide +kernel
theorem d_AR_copyOfI_21 : decode b_AR_copyOfI 21 = .ok (.iconst 0, 1) := by decide +kernel
theorem d_AR_copyOfI_22 : decode b_AR_copyOfI 22 = .ok (.aload_n 0, 1) := by decide +kernel
theorem d_AR_copyOfI_23 : decode b_AR_copyOfI 23 = .ok (.arraylength, 1) := by decide +kernel
theorem d_AR_copyOfI_24 : decode b_AR_copyOfI 24 = .ok (.iload_n 1, 1) := by decide +kernel
theorem d_AR_copyOfI_25 : decode b_AR_copyOfI 25 = .ok (.invokestatic 304, 3) := by decide +kernel
theorem d_AR_copyOfI_28 : decode b_AR_copyOfI 28 = .ok (.invokestatic 150, 3) := by decide +kernel
theorem d_AR_copyOfI_31 : decode b_AR_copyOfI 31 = .ok (.aload_n 2, 1) := by decide +kernel
theorem d_AR_copyOfI_32 : decode b_AR_copyOfI 32 = .ok (.areturn, 1) := by decide +kernel
theorem d_LY_init_0 : decode b_LY_init 0 = .ok (.aload_n 0, 1) := by decide +kernel
theorem d_LY_init_1 : decode b_LY_init 1 = .ok (.invokespecial 3, 3) := by decide +kernel
theorem d_LY_init_4 : decode b_LY_init 4 = .ok (.iconst 0, 1) := by decide +kernel
theorem d_LY_init_5 : decode b_LY_init 5 = .ok (.istore_n 3, 1) := by decide +kernel
theorem d_LY_init_6 : decode b_LY_init 6 = .ok (.iconst 1, 1) := by decide +kernel
theorem d_LY_init_7 : decode b_LY_init 7 = .ok (.istore 4, 2) := by decide +kernel
theorem d_LY_init_9 : decode b_LY_init 9 = .ok (.iload 4, 2) := by decide +kernel
theorem d_LY_init_11 : decode b_LY_init 11 = .ok (.bipush 125, 2) := by decide +kernel
theorem d_LY_init_13 : decode b_LY_init 13 = .ok (.if_icmp .ge 26, 3) := by decide +kernel
theorem d_LY_init_16 : decode b_LY_init 16 = .ok (.iload 4, 2) := by decide +kernel
theorem d_LY_init_18 : decode b_LY_init 18 = .ok (.aload_n 1, 1) := by decide +kernel
theorem d_LY_init_19 : decode b_LY_init 19 = .ok (.aload_n 2, 1) := by decide +kernel
theorem d_LY_init_20 : decode b_LY_init 20 = .ok (.invokestatic 9, 3) := by decide +kernel
theorem d_LY_init_23 : decode b_LY_init 23 = .ok (.ldc2_w 15, 3) := by decide +kernel
theorem d_LY_init_26 : decode b_LY_init 26 = .ok (.lcmp, 1) := by decide +kernel
theorem d_LY_init_27 : decode b_LY_init 27 = .ok (.ifCond .eq 6, 3) := by decide +kernel
theorem d_LY_init_30 : decode b_LY_init 30 = .ok (.iinc 3 1, 3) := by decide +kernel
theorem d_LY_init_33 : decode b_LY_init 33 = .ok (.iinc 4 1, 3) := by decide +kernel
theorem d_LY_init_36 : decode b_LY_init 36 = .ok (.goto (-27), 3) := by decide +kernel
theorem d_LY_init_39 : decode b_LY_init 39 = .ok (.aload_n 0, 1) := by decide +kernel
theorem d_LY_init_40 : decode b_LY_init 40 = .ok (.iload_n 3, 1) := by decide +kernel
theorem d_LY_init_41 : decode b_LY_init 41 = .ok (.newarray .int, 2) := by decide +kernel
theorem d_LY_init_43 : decode b_LY_init 43 = .ok (.putfield 17, 3) := by decide +kernel
theorem d_LY_init_46 : decode b_LY_init 46 = .ok (.aload_n 0, 1) := by decide +kernel
theorem d_LY_init_47 : decode b_LY_init 47 = .ok (.iload_n 3, 1) := by decide +kernel
theorem d_LY_init_48 : decode b_LY_init 48 = .ok (.newarray .long, 2) := by decide +kernel
theorem d_LY_init_50 : decode b_LY_init 50 = .ok (.putfield 21, 3) := by decide +kernel
theorem d_LY_init_53 : decode b_LY_init 53 = .ok (.iconst 0, 1) := by decide +kernel
theorem d_LY_init_54 : decode b_LY_init 54 = .ok (.istore 4, 2) := by decide +kernel
theorem d_LY_init_56 : decode b_LY_init 56 = .ok (.iconst 1, 1) := by decide +kernel
theorem d_LY_init_57 : decode b_LY_init 57 = .ok (.istore 5, 2) := by decide +kernel
theorem d_LY_init_59 : decode b_LY_init 59 = .ok (.iload 5, 2) := by decide +kernel
theorem d_LY_init_61 : decode b_LY_init 61 = .ok (.bipush 125, 2) := by decide +kernel
theorem d_LY_init_63 : decode b_LY_init 63 = .ok (.if_icmp .ge 54, 3) := by decide +kernel
theorem d_LY_init_66 : decode b_LY_init 66 = .ok (.iload 4, 2) := by decide +kernel
theorem d_LY_init_68 : decode b_LY_init 68 = .ok (.iload_n 3, 1) := by decide +kernel
theorem d_LY_init_69 : decode b_LY_init 69 = .ok (.if_icmp .ge 48, 3) := by decide +kernel
theorem d_LY_init_72 : decode b_LY_init 72 = .ok (.iload 5, 2) := by decide +kernel
theorem d_LY_init_74 : decode b_LY_init 74 = .ok (.aload_n 1, 1) := by decide +kernel
theorem d_LY_init_75 : decode b_LY_init 75 = .ok (.aload_n 2, 1) := by decide +kernel
theorem d_LY_init_76 : decode b_LY_init 76 = .ok (.invokestatic 9, 3) := by decide +kernel
theorem d_LY_init_79 : decode b_LY_init 79 = .ok (.lstore 6, 2) := by decide +kernel
theorem d_LY_init_81 : decode b_LY_init 81 = .ok (.lload 6, 2) := by decide +kernel
theorem d_LY_init_83 : decode b_LY_init 83 = .ok (.ldc2_w 15, 3) := by decide +kernel
theorem d_LY_init_86 : decode b_LY_init 86 = .ok (.lcmp, 1) := by decide +kernel
theorem d_LY_init_87 : decode b_LY_init 87 = .ok (.ifCond .eq 24, 3) := by decide +kernel
theorem d_LY_init_90 : decode b_LY_init 90 = .ok (.aload_n 0, 1) := by decide +kernel
theorem d_LY_init_91 : decode b_LY_init 91 = .ok (.getfield 17, 3) := by decide +kernel
theorem d_LY_init_94 : decode b_LY_init 94 = .ok (.iload 4, 2) := by decide +kernel
theorem d_LY_init_96 : decode b_LY_init 96 = .ok (.iload 5, 2) := by decide +kernel
theorem d_LY_init_98 : decode b_LY_init 98 = .ok (.iastore, 1) := by decide +kernel
theorem d_LY_init_99 : decode b_LY_init 99 = .ok (.aload_n 0, 1) := by decide +kernel
theorem d_LY_init_100 : decode b_LY_init 100 = .ok (.getfield 21, 3) := by decide +kernel
theorem d_LY_init_103 : decode b_LY_init 103 = .ok (.iload 4, 2) := by decide +kernel
theorem d_LY_init_105 : decode b_LY_init 105 = .ok (.lload 6, 2) := by decide +kernel
theorem d_LY_init_107 : decode b_LY_init 107 = .ok (.lastore, 1) := by decide +kernel
theorem d_LY_init_108 : decode b_LY_init 108 = .ok (.iinc 4 1, 3) := by decide +kernel
theorem d_LY_init_111 : decode b_LY_init 111 = .ok (.iinc 5 1, 3) := by decide +kernel
theorem d_LY_init_114 : decode b_LY_init 114 = .ok (.goto (-55), 3) := by decide +kernel
theorem d_LY_init_117 : decode b_LY_init 117 = .ok (.return_, 1) := by decide +kernel
theorem d_LY_changeAt_0 : decode b_LY_changeAt 0 = .ok (.aload_n 2, 1) := by decide +kernel
theorem d_LY_changeAt_1 : decode b_LY_changeAt 1 = .ok (.iload_n 0, 1) := by decide +kernel
theorem d_LY_changeAt_2 : decode b_LY_changeAt 2 = .ok (.invokevirtual 25, 3) := by decide +kernel
theorem d_LY_changeAt_5 : decode b_LY_changeAt 5 = .ok (.lstore_n 3, 1) := by decide +kernel
theorem d_LY_changeAt_6 : decode b_LY_changeAt 6 = .ok (.lload_n 3, 1) := by decide +kernel
theorem d_LY_changeAt_7 : decode b_LY_changeAt 7 = .ok (.aload_n 1, 1) := by decide +kernel
theorem d_LY_changeAt_8 : decode b_LY_changeAt 8 = .ok (.iload_n 0, 1) := by decide +kernel
theorem d_LY_changeAt_9 : decode b_LY_changeAt 9 = .ok (.invokevirtual 25, 3) := by decide +kernel
theorem d_LY_changeAt_12 : decode b_LY_changeAt 12 = .ok (.lcmp, 1) := by decide +kernel
theorem d_LY_changeAt_13 : decode b_LY_changeAt 13 = .ok (.ifCond .ne 7, 3) := by decide +kernel
theorem d_LY_changeAt_16 : decode b_LY_changeAt 16 = .ok (.ldc2_w 15, 3) := by decide +kernel
theorem d_LY_changeAt_19 : decode b_LY_changeAt 19 = .ok (.lreturn, 1) := by decide +kernel
theorem d_LY_changeAt_20 : decode b_LY_changeAt 20 = .ok (.lload_n 3, 1) := by decide +kernel
theorem d_LY_changeAt_21 : decode b_LY_changeAt 21 = .ok (.ldc2_w 31, 3) := by decide +kernel
theorem d_LY_changeAt_24 : decode b_LY_changeAt 24 = .ok (.lcmp, 1) := by decide +kernel
theorem d_LY_changeAt_25 : decode b_LY_changeAt 25 = .ok (.ifCond .eq 5, 3) := by decide +kernel
theorem d_LY_changeAt_28 : decode b_LY_changeAt 28 = .ok (.lload_n 3, 1) := by decide +kernel
theorem d_LY_changeAt_29 : decode b_LY_changeAt 29 = .ok (.lreturn, 1) := by decide +kernel
theorem d_LY_changeAt_30 : decode b_LY_changeAt 30 = .ok (.aload_n 2, 1) := by decide +kernel
theorem d_LY_changeAt_31 : decode b_LY_changeAt 31 = .ok (.iload_n 0, 1) := by decide +kernel
theorem d_LY_changeAt_32 : decode b_LY_changeAt 32 = .ok (.invokestatic 33, 3) := by decide +kernel
theorem d_LY_changeAt_35 : decode b_LY_changeAt 35 = .ok (.invokevirtual 25, 3) := by decide +kernel
theorem d_LY_changeAt_38 : decode b_LY_changeAt 38 = .ok (.ldc2_w 39, 3) := by decide +kernel
theorem d_LY_changeAt_41 : decode b_LY_changeAt 41 = .ok (.lcmp, 1) := by decide +kernel
theorem d_LY_changeAt_42 : decode b_LY_changeAt 42 = .ok (.ifCond .ne 9, 3) := by decide +kernel
theorem d_LY_changeAt_45 : decode b_LY_changeAt 45 = .ok (.ldc2_w 41, 3) := by decide +kernel
theorem d_LY_changeAt_48 : decode b_LY_changeAt 48 = .ok (.goto 6, 3) := by decide +kernel
theorem d_LY_changeAt_51 : decode b_LY_changeAt 51 = .ok (.ldc2_w 15, 3) := by decide +kernel
theorem d_LY_changeAt_54 : decode b_LY_changeAt 54 = .ok (.lreturn, 1) := by decide +kernel
theorem d_TR_at_0 : decode b_TR_at 0 = .ok (.aload_n 0, 1) := by decide +kernel
theorem d_TR_at_1 : decode b_TR_at 1 = .ok (.getfield 9, 3) := by decide +kernel
theorem d_TR_at_4 : decode b_TR_at 4 = .ok (.iload_n 1, 1) := by decide +kernel
theorem d_TR_at_5 : decode b_TR_at 5 = .ok (.laload, 1) := by decide +kernel
theorem d_TR_at_6 : decode b_TR_at 6 = .ok (.lreturn, 1) := by decide +kernel
theorem d_IS_numberOfLayer_0 : decode b_IS_numberOfLayer 0 = .ok (.iconst 0, 1) := by decide +kernel
theorem d_IS_numberOfLayer_1 : decode b_IS_numberOfLayer 1 = .ok (.istore_n 2, 1) := by decide +kernel
theorem d_IS_numberOfLayer_2 : decode b_IS_numberOfLayer 2 = .ok (.iload_n 2, 1) := by decide +kernel
theorem d_IS_numberOfLayer_3 : decode b_IS_numberOfLayer 3 = .ok (.aload_n 0, 1) := by decide +kernel
theorem d_IS_numberOfLayer_4 : decode b_IS_numberOfLayer 4 = .ok (.getfield 16, 3) := by decide +kernel
theorem d_IS_numberOfLayer_7 : decode b_IS_numberOfLayer 7 = .ok (.invokevirtual 161, 3) := by decide +kernel
theorem d_IS_numberOfLayer_10 : decode b_IS_numberOfLayer 10 = .ok (.if_icmp .ge 29, 3) := by decide +kernel
theorem d_IS_numberOfLayer_13 : decode b_IS_numberOfLayer 13 = .ok (.aload_n 0, 1) := by decide +kernel
theorem d_IS_numberOfLayer_14 : decode b_IS_numberOfLayer 14 = .ok (.getfield 16, 3) := by decide +kernel
theorem d_IS_numberOfLayer_17 : decode b_IS_numberOfLayer 17 = .ok (.iload_n 2, 1) := by decide +kernel
theorem d_IS_numberOfLayer_18 : decode b_IS_numberOfLayer 18 = .ok (.invokevirtual 60, 3) := by decide +kernel
theorem d_IS_numberOfLayer_21 : decode b_IS_numberOfLayer 21 = .ok (.checkcast 137, 3) := by decide +kernel
theorem d_IS_numberOfLayer_24 : decode b_IS_numberOfLayer 24 = .ok (.aload_n 1, 1) := by decide +kernel
theorem d_IS_numberOfLayer_25 : decode b_IS_numberOfLayer 25 = .ok (.invokevirtual 192, 3) := by decide +kernel
theorem d_IS_numberOfLayer_28 : decode b_IS_numberOfLayer 28 = .ok (.ifCond .eq 5, 3) := by decide +kernel
theorem d_IS_numberOfLayer_31 : decode b_IS_numberOfLayer 31 = .ok (.iload_n 2, 1) := by decide +kernel
theorem d_IS_numberOfLayer_32 : decode b_IS_numberOfLayer 32 = .ok (.ireturn, 1) := by decide +kernel
theorem d_IS_numberOfLayer_33 : decode b_IS_numberOfLayer 33 = .ok (.iinc 2 1, 3) := by decide +kernel
theorem d_IS_numberOfLayer_36 : decode b_IS_numberOfLayer 36 = .ok (.goto (-34), 3) := by decide +kernel
theorem d_IS_numberOfLayer_39 : decode b_IS_numberOfLayer 39 = .ok (.aload_n 0, 1) := by decide +kernel
theorem d_IS_numberOfLayer_40 : decode b_IS_numberOfLayer 40 = .ok (.getfield 16, 3) := by decide +kernel
theorem d_IS_numberOfLayer_43 : decode b_IS_numberOfLayer 43 = .ok (.aload_n 1, 1) := by decide +kernel
theorem d_IS_numberOfLayer_44 : decode b_IS_numberOfLayer 44 = .ok (.invokevirtual 49, 3) := by decide +kernel
theorem d_IS_numberOfLayer_47 : decode b_IS_numberOfLayer 47 = .ok (.pop, 1) := by decide +kernel
theorem d_IS_numberOfLayer_48 : decode b_IS_numberOfLayer 48 = .ok (.aload_n 0, 1) := by decide +kernel
theorem d_IS_numberOfLayer_49 : decode b_IS_numberOfLayer 49 = .ok (.getfield 16, 3) := by decide +kernel
theorem d_IS_numberOfLayer_52 : decode b_IS_numberOfLayer 52 = .ok (.invokevirtual 161, 3) := by decide +kernel
theorem d_IS_numberOfLayer_55 : decode b_IS_numberOfLayer 55 = .ok (.iconst 1, 1) := by decide +kernel
theorem d_IS_numberOfLayer_56 : decode b_IS_numberOfLayer 56 = .ok (.isub, 1) := by decide +kernel
theorem d_IS_numberOfLayer_57 : decode b_IS_numberOfLayer 57 = .ok (.ireturn, 1) := by decide +kernel
theorem d_LY_sameAs_0 : decode b_LY_sameAs 0 = .ok (.aload_n 0, 1) := by decide +kernel
theorem d_LY_sameAs_1 : decode b_LY_sameAs 1 = .ok (.getfield 17, 3) := by decide +kernel
theorem d_LY_sameAs_4 : decode b_LY_sameAs 4 = .ok (.arraylength, 1) := by decide +kernel
theorem d_LY_sameAs_5 : decode b_LY_sameAs 5 = .ok (.aload_n 1, 1) := by decide +kernel
theorem d_LY_sameAs_6 : decode b_LY_sameAs 6 = .ok (.getfield 17, 3) := by decide +kernel
theorem d_LY_sameAs_9 : decode b_LY_sameAs 9 = .ok (.arraylength, 1) := by decide +kernel
theorem d_LY_sameAs_10 : decode b_LY_sameAs 10 = .ok (.if_icmp .eq 5, 3) := by decide +kernel
theorem d_LY_sameAs_13 : decode b_LY_sameAs 13 = .ok (.iconst 0, 1) := by decide +kernel
theorem d_LY_sameAs_14 : decode b_LY_sameAs 14 = .ok (.ireturn, 1) := by decide +kernel
theorem d_LY_sameAs_15 : decode b_LY_sameAs 15 = .ok (.iconst 0, 1) := by decide +kernel
theorem d_LY_sameAs_16 : decode b_LY_sameAs 16 = .ok (.istore_n 2, 1) := by decide +kernel
theorem d_LY_sameAs_17 : decode b_LY_sameAs 17 = .ok (.iload_n 2, 1) := by decide +kernel
theorem d_LY_sameAs_18 : decode b_LY_sameAs 18 = .ok (.aload_n 0, 1) := by decide +kernel
theorem d_LY_sameAs_19 : decode b_LY_sameAs 19 = .ok (.getfield 17, 3) := by decide +kernel
theorem d_LY_sameAs_22 : decode b_LY_sameAs 22 = .ok (.arraylength, 1) := by decide +kernel
theorem d_LY_sameAs_23 : decode b_LY_sameAs 23 = .ok (.if_icmp .ge 42, 3) := by decide +kernel
theorem d_LY_sameAs_26 : decode b_LY_sameAs 26 = .ok (.aload_n 0, 1) := by decide +kernel
theorem d_LY_sameAs_27 : decode b_LY_sameAs 27 = .ok (.getfield 17, 3) := by decide +kernel
theorem d_LY_sameAs_30 : decode b_LY_sameAs 30 = .ok (.iload_n 2, 1) := by decide +kernel
theorem d_LY_sameAs_31 : decode b_LY_sameAs 31 = .ok (.iaload, 1) := by decide +kernel
theorem d_LY_sameAs_32 : decode b_LY_sameAs 32 = .ok (.aload_n 1, 1) := by decide +kernel
theorem d_LY_sameAs_33 : decode b_LY_sameAs 33 = .ok (.getfield 17, 3) := by decide +kernel
theorem d_LY_sameAs_36 : decode b_LY_sameAs 36 = .ok (.iload_n 2, 1) := by decide +kernel
theorem d_LY_sameAs_37 : decode b_LY_sameAs 37 = .ok (.iaload, 1) := by decide +kernel
theorem d_LY_sameAs_38 : decode b_LY_sameAs 38 = .ok (.if_icmp .ne 19, 3) := by decide +kernel
theorem d_LY_sameAs_41 : decode b_LY_sameAs 41 = .ok (.aload_n 0, 1) := by decide +kernel
theorem d_LY_sameAs_42 : decode b_LY_sameAs 42 = .ok (.getfield 21, 3) := by decide +kernel
theorem d_LY_sameAs_45 : decode b_LY_sameAs 45 = .ok (.iload_n 2, 1) := by decide +kernel
theorem d_LY_sameAs_46 : decode b_LY_sameAs 46 = .ok (.laload, 1) := by decide +kernel
theorem d_LY_sameAs_47 : decode b_LY_sameAs 47 = .ok (.aload_n 1, 1) := by decide +kernel
theorem d_LY_sameAs_48 : decode b_LY_sameAs 48 = .ok (.getfield 21, 3) := by decide +kernel
theorem d_LY_sameAs_51 : decode b_LY_sameAs 51 = .ok (.iload_n 2, 1) := by decide +kernel
theorem d_LY_sameAs_52 : decode b_LY_sameAs 52 = .ok (.laload, 1) := by decide +kernel
theorem d_LY_sameAs_53 : decode b_LY_sameAs 53 = .ok (.lcmp, 1) := by decide +kernel
theorem d_LY_sameAs_54 : decode b_LY_sameAs 54 = .ok (.ifCond .eq 5, 3) := by decide +kernel
theorem d_LY_sameAs_57 : decode b_LY_sameAs 57 = .ok (.iconst 0, 1) := by decide +kernel
theorem d_LY_sameAs_58 : decode b_LY_sameAs 58 = .ok (.ireturn, 1) := by decide +kernel
theorem d_LY_sameAs_59 : decode b_LY_sameAs 59 = .ok (.iinc 2 1, 3) := by decide +kernel
theorem d_LY_sameAs_62 : decode b_LY_sameAs 62 = .ok (.goto (-45), 3) := by decide +kernel
theorem d_LY_sameAs_65 : decode b_LY_sameAs 65 = .ok (.iconst 1, 1) := by decide +kernel
theorem d_LY_sameAs_66 : decode b_LY_sameAs 66 = .ok (.ireturn, 1) := by decide +kernel
theorem d_IS_flatten_0 : decode b_IS_flatten 0 = .ok (.aload_n 0, 1) := by decide +kernel
theorem d_IS_flatten_1 : decode b_IS_flatten 1 = .ok (.iload_n 1, 1) := by decide +kernel
theorem d_IS_flatten_2 : decode b_IS_flatten 2 = .ok (.invokevirtual 53, 3) := by decide +kernel
theorem d_IS_flatten_5 : decode b_IS_flatten 5 = .ok (.ifCond .eq 14, 3) := by decide +kernel
theorem d_IS_flatten_8 : decode b_IS_flatten 8 = .ok (.aload_n 0, 1) := by decide +kernel
theorem d_IS_flatten_9 : decode b_IS_flatten 9 = .ok (.getfield 22, 3) := by decide +kernel
theorem d_IS_flatten_12 : decode b_IS_flatten 12 = .ok (.iload_n 1, 1) := by decide +kernel
theorem d_IS_flatten_13 : decode b_IS_flatten 13 = .ok (.invokevirtual 57, 3) := by decide +kernel
theorem d_IS_flatten_16 : decode b_IS_flatten 16 = .ok (.ifCond .ne 5, 3) := by decide +kernel
theorem d_IS_flatten_19 : decode b_IS_flatten 19 = .ok (.iconst (-1), 1) := by decide +kernel
theorem d_IS_flatten_20 : decode b_IS_flatten 20 = .ok (.ireturn, 1) := by decide +kernel
theorem d_IS_flatten_21 : decode b_IS_flatten 21 = .ok (.aload_n 0, 1) := by decide +kernel
theorem d_IS_flatten_22 : decode b_IS_flatten 22 = .ok (.getfield 32, 3) := by decide +kernel
theorem d_IS_flatten_25 : decode b_IS_flatten 25 = .ok (.aload_n 0, 1) := by decide +kernel
theorem d_IS_flatten_26 : decode b_IS_flatten 26 = .ok (.getfield 10, 3) := by decide +kernel
theorem d_IS_flatten_29 : decode b_IS_flatten 29 = .ok (.iload_n 1, 1) := by decide +kernel
theorem d_IS_flatten_30 : decode b_IS_flatten 30 = .ok (.invokevirtual 60, 3) := by decide +kernel
theorem d_IS_flatten_33 : decode b_IS_flatten 33 = .ok (.checkcast 44, 3) := by decide +kernel
theorem d_IS_flatten_36 : decode b_IS_flatten 36 = .ok (.getfield 64, 3) := by decide +kernel
theorem d_IS_flatten_39 : decode b_IS_flatten 39 = .ok (.invokevirtual 67, 3) := by decide +kernel
theorem d_IS_flatten_42 : decode b_IS_flatten 42 = .ok (.aload_n 0, 1) := by decide +kernel
theorem d_IS_flatten_43 : decode b_IS_flatten 43 = .ok (.iconst 0, 1) := by decide +kernel
theorem d_IS_flatten_44 : decode b_IS_flatten 44 = .ok (.invokevirtual 75, 3) := by decide +kernel
theorem d_IS_flatten_47 : decode b_IS_flatten 47 = .ok (.ireturn, 1) := by decide +kernel
theorem d_IS_tag_0 : decode b_IS_tag 0 = .ok (.iload_n 1, 1) := by decide +kernel
theorem d_IS_tag_1 : decode b_IS_tag 1 = .ok (.invokestatic 79, 3) := by decide +kernel
theorem d_IS_tag_4 : decode b_IS_tag 4 = .ok (.ifCond .eq 22, 3) := by decide +kernel
theorem d_IS_tag_7 : decode b_IS_tag 7 = .ok (.iload_n 2, 1) := by decide +kernel
theorem d_IS_tag_8 : decode b_IS_tag 8 = .ok (.invokestatic 82, 3) := by decide +kernel
theorem d_IS_tag_11 : decode b_IS_tag 11 = .ok (.ifCond .eq 15, 3) := by decide +kernel
theorem d_IS_tag_14 : decode b_IS_tag 14 = .ok (.aload_n 0, 1) := by decide +kernel
theorem d_IS_tag_15 : decode b_IS_tag 15 = .ok (.iload_n 1, 1) := by decide +kernel
theorem d_IS_tag_16 : decode b_IS_tag 16 = .ok (.invokevirtual 85, 3) := by decide +kernel
theorem d_IS_tag_19 : decode b_IS_tag 19 = .ok (.iload_n 3, 1) := by decide +kernel
theorem d_IS_tag_20 : decode b_IS_tag 20 = .ok (.invokevirtual 57, 3) := by decide +kernel
theorem d_IS_tag_23 : decode b_IS_tag 23 = .ok (.ifCond .ne 5, 3) := by decide +kernel
theorem d_IS_tag_26 : decode b_IS_tag 26 = .ok (.iconst (-1), 1) := by decide +kernel
theorem d_IS_tag_27 : decode b_IS_tag 27 = .ok (.ireturn, 1) := by decide +kernel
theorem d_IS_tag_28 : decode b_IS_tag 28 = .ok (.aload_n 0, 1) := by decide +kernel
theorem d_IS_tag_29 : decode b_IS_tag 29 = .ok (.iload_n 1, 1) := by decide +kernel
theorem d_IS_tag_30 : decode b_IS_tag 30 = .ok (.invokevirtual 85, 3) := by decide +kernel
theorem d_IS_tag_33 : decode b_IS_tag 33 = .ok (.iload_n 2, 1) := by decide +kernel
theorem d_IS_tag_34 : decode b_IS_tag 34 = .ok (.invokevirtual 89, 3) := by decide +kernel
theorem d_IS_tag_37 : decode b_IS_tag 37 = .ok (.istore 4, 2) := by decide +kernel
theorem d_IS_tag_39 : decode b_IS_tag 39 = .ok (.aload_n 0, 1) := by decide +kernel
theorem d_IS_tag_40 : decode b_IS_tag 40 = .ok (.iload_n 1, 1) := by decide +kernel
theorem d_IS_tag_41 : decode b_IS_tag 41 = .ok (.invokevirtual 85, 3) := by decide +kernel
theorem d_IS_tag_44 : decode b_IS_tag 44 = .ok (.iload_n 2, 1) := by decide +kernel
theorem d_IS_tag_45 : decode b_IS_tag 45 = .ok (.iload_n 3, 1) := by decide +kernel
theorem d_IS_tag_46 : decode b_IS_tag 46 = .ok (.invokevirtual 92, 3) := by decide +kernel
theorem d_IS_tag_49 : decode b_IS_tag 49 = .ok (.iload 4, 2) := by decide +kernel
theorem d_IS_tag_51 : decode b_IS_tag 51 = .ok (.ireturn, 1) := by decide +kernel
theorem d_IS_isStore_0 : decode b_IS_isStore 0 = .ok (.iload_n 0, 1) := by decide +kernel
theorem d_IS_isStore_1 : decode b_IS_isStore 1 = .ok (.ifCond .eq 8, 3) := by decide +kernel
theorem d_IS_isStore_4 : decode b_IS_isStore 4 = .ok (.iload_n 0, 1) := by decide +kernel
theorem d_IS_isStore_5 : decode b_IS_isStore 5 = .ok (.iconst 1, 1) := by decide +kernel
theorem d_IS_isStore_6 : decode b_IS_isStore 6 = .ok (.if_icmp .ne 7, 3) := by decide +kernel
theorem d_IS_isStore_9 : decode b_IS_isStore 9 = .ok (.iconst 1, 1) := by decide +kernel
theorem d_IS_isStore_10 : decode b_IS_isStore 10 = .ok (.goto 4, 3) := by decide +kernel
theorem d_IS_isStore_13 : decode b_IS_isStore 13 = .ok (.iconst 0, 1) := by decide +kernel
theorem d_IS_isStore_14 : decode b_IS_isStore 14 = .ok (.ireturn, 1) := by decide +kernel
theorem d_IS_isTag_0 : decode b_IS_isTag 0 = .ok (.iload_n 0, 1) := by decide +kernel
theorem d_IS_isTag_1 : decode b_IS_isTag 1 = .ok (.ifCond .lt 13, 3) := by decide +kernel
theorem d_IS_isTag_4 : decode b_IS_isTag 4 = .ok (.iload_n 0, 1) := by decide +kernel
theorem d_IS_isTag_5 : decode b_IS_isTag 5 = .ok (.bipush 6, 2) := by decide +kernel
theorem d_IS_isTag_7 : decode b_IS_isTag 7 = .ok (.if_icmp .ge 7, 3) := by decide +kernel
theorem d_IS_isTag_10 : decode b_IS_isTag 10 = .ok (.iconst 1, 1) := by decide +kernel
theorem d_IS_isTag_11 : decode b_IS_isTag 11 = .ok (.goto 4, 3) := by decide +kernel
theorem d_IS_isTag_14 : decode b_IS_isTag 14 = .ok (.iconst 0, 1) := by decide +kernel
theorem d_IS_isTag_15 : decode b_IS_isTag 15 = .ok (.ireturn, 1) := by decide +kernel
theorem d_IS_storeOf_0 : decode b_IS_storeOf 0 = .ok (.iload_n 1, 1) := by decide +kernel
theorem d_IS_storeOf_1 : decode b_IS_storeOf 1 = .ok (.ifCond .ne 10, 3) := by decide +kernel
theorem d_IS_storeOf_4 : decode b_IS_storeOf 4 = .ok (.aload_n 0, 1) := by decide +kernel
theorem d_IS_storeOf_5 : decode b_IS_storeOf 5 = .ok (.getfield 22, 3) := by decide +kernel
theorem d_IS_storeOf_8 : decode b_IS_storeOf 8 = .ok (.goto 7, 3) := by decide +kernel
theorem d_IS_storeOf_11 : decode b_IS_storeOf 11 = .ok (.aload_n 0, 1) := by decide +kernel
theorem d_IS_storeOf_12 : decode b_IS_storeOf 12 = .ok (.getfield 26, 3) := by decide +kernel
theorem d_IS_storeOf_15 : decode b_IS_storeOf 15 = .ok (.areturn, 1) := by decide +kernel
theorem d_ST_nameOf_0 : decode b_ST_nameOf 0 = .ok (.aload_n 0, 1) := by decide +kernel
theorem d_ST_nameOf_1 : decode b_ST_nameOf 1 = .ok (.getfield 15, 3) := by decide +kernel
theorem d_ST_nameOf_4 : decode b_ST_nameOf 4 = .ok (.iload_n 1, 1) := by decide +kernel
theorem d_ST_nameOf_5 : decode b_ST_nameOf 5 = .ok (.iaload, 1) := by decide +kernel
theorem d_ST_nameOf_6 : decode b_ST_nameOf 6 = .ok (.ireturn, 1) := by decide +kernel
theorem d_ST_giveName_0 : decode b_ST_giveName 0 = .ok (.aload_n 0, 1) := by decide +kernel
theorem d_ST_giveName_1 : decode b_ST_giveName 1 = .ok (.getfield 15, 3) := by decide +kernel
theorem d_ST_giveName_4 : decode b_ST_giveName 4 = .ok (.iload_n 1, 1) := by decide +kernel
theorem d_ST_giveName_5 : decode b_ST_giveName 5 = .ok (.iload_n 2, 1) := by decide +kernel
theorem d_ST_giveName_6 : decode b_ST_giveName 6 = .ok (.iastore, 1) := by decide +kernel
theorem d_ST_giveName_7 : decode b_ST_giveName 7 = .ok (.return_, 1) := by decide +kernel
theorem d_IS_untag_0 : decode b_IS_untag 0 = .ok (.aload_n 0, 1) := by decide +kernel
theorem d_IS_untag_1 : decode b_IS_untag 1 = .ok (.iload_n 1, 1) := by decide +kernel
theorem d_IS_untag_2 : decode b_IS_untag 2 = .ok (.iload_n 2, 1) := by decide +kernel
theorem d_IS_untag_3 : decode b_IS_untag 3 = .ok (.invokevirtual 96, 3) := by decide +kernel
theorem d_IS_untag_6 : decode b_IS_untag 6 = .ok (.ifCond .ne 5, 3) := by decide +kernel
theorem d_IS_untag_9 : decode b_IS_untag 9 = .ok (.iconst (-1), 1) := by decide +kernel
theorem d_IS_untag_10 : decode b_IS_untag 10 = .ok (.ireturn, 1) := by decide +kernel
theorem d_IS_untag_11 : decode b_IS_untag 11 = .ok (.aload_n 0, 1) := by decide +kernel
theorem d_IS_untag_12 : decode b_IS_untag 12 = .ok (.iload_n 1, 1) := by decide +kernel
theorem d_IS_untag_13 : decode b_IS_untag 13 = .ok (.invokevirtual 85, 3) := by decide +kernel
theorem d_IS_untag_16 : decode b_IS_untag 16 = .ok (.iload_n 2, 1) := by decide +kernel
theorem d_IS_untag_17 : decode b_IS_untag 17 = .ok (.invokevirtual 89, 3) := by decide +kernel
theorem d_IS_untag_20 : decode b_IS_untag 20 = .ok (.istore_n 3, 1) := by decide +kernel
theorem d_IS_untag_21 : decode b_IS_untag 21 = .ok (.aload_n 0, 1) := by decide +kernel
theorem d_IS_untag_22 : decode b_IS_untag 22 = .ok (.iload_n 1, 1) := by decide +kernel
theorem d_IS_untag_23 : decode b_IS_untag 23 = .ok (.invokevirtual 85, 3) := by decide +kernel
theorem d_IS_untag_26 : decode b_IS_untag 26 = .ok (.iload_n 2, 1) := by decide +kernel
theorem d_IS_untag_27 : decode b_IS_untag 27 = .ok (.bipush 40, 2) := by decide +kernel
theorem d_IS_untag_29 : decode b_IS_untag 29 = .ok (.invokevirtual 92, 3) := by decide +kernel
theorem d_IS_untag_32 : decode b_IS_untag 32 = .ok (.iload_n 3, 1) := by decide +kernel
theorem d_IS_untag_33 : decode b_IS_untag 33 = .ok (.ireturn, 1) := by decide +kernel
theorem d_IS_namesImage_0 : decode b_IS_namesImage 0 = .ok (.iload_n 1, 1) := by decide +kernel
theorem d_IS_namesImage_1 : decode b_IS_namesImage 1 = .ok (.invokestatic 79, 3) := by decide +kernel
theorem d_IS_namesImage_4 : decode b_IS_namesImage 4 = .ok (.ifCond .eq 28, 3) := by decide +kernel
theorem d_IS_namesImage_7 : decode b_IS_namesImage 7 = .ok (.iload_n 2, 1) := by decide +kernel
theorem d_IS_namesImage_8 : decode b_IS_namesImage 8 = .ok (.invokestatic 82, 3) := by decide +kernel
theorem d_IS_namesImage_11 : decode b_IS_namesImage 11 = .ok (.ifCond .eq 21, 3) := by decide +kernel
theorem d_IS_namesImage_14 : decode b_IS_namesImage 14 = .ok (.aload_n 0, 1) := by decide +kernel
theorem d_IS_namesImage_15 : decode b_IS_namesImage 15 = .ok (.iload_n 1, 1) := by decide +kernel
theorem d_IS_namesImage_16 : decode b_IS_namesImage 16 = .ok (.invokevirtual 85, 3) := by decide +kernel
theorem d_IS_namesImage_19 : decode b_IS_namesImage 19 = .ok (.iload_n 2, 1) := by decide +kernel
theorem d_IS_namesImage_20 : decode b_IS_namesImage 20 = .ok (.invokevirtual 89, 3) := by decide +kernel
theorem d_IS_namesImage_23 : decode b_IS_namesImage 23 = .ok (.bipush 40, 2) := by decide +kernel
theorem d_IS_namesImage_25 : decode b_IS_namesImage 25 = .ok (.if_icmp .eq 7, 3) := by decide +kernel
theorem d_IS_namesImage_28 : decode b_IS_namesImage 28 = .ok (.iconst 1, 1) := by decide +kernel
theorem d_IS_namesImage_29 : decode b_IS_namesImage 29 = .ok (.goto 4, 3) := by decide +kernel
theorem d_IS_namesImage_32 : decode b_IS_namesImage 32 = .ok (.iconst 0, 1) := by decide +kernel
theorem d_IS_namesImage_33 : decode b_IS_namesImage 33 = .ok (.ireturn, 1) := by decide +kernel
theorem d_IS_send_0 : decode b_IS_send 0 = .ok (.aload_n 0, 1) := by decide +kernel
theorem d_IS_send_1 : decode b_IS_send 1 = .ok (.iload_n 1, 1) := by decide +kernel
theorem d_IS_send_2 : decode b_IS_send 2 = .ok (.iload_n 2, 1) := by decide +kernel
theorem d_IS_send_3 : decode b_IS_send 3 = .ok (.invokevirtual 96, 3) := by decide +kernel
theorem d_IS_send_6 : decode b_IS_send 6 = .ok (.ifCond .ne 5, 3) := by decide +kernel
theorem d_IS_send_9 : decode b_IS_send 9 = .ok (.iconst (-1), 1) := by decide +kernel
theorem d_IS_send_10 : decode b_IS_send 10 = .ok (.ireturn, 1) := by decide +kernel
theorem d_IS_send_11 : decode b_IS_send 11 = .ok (.aload_n 0, 1) := by decide +kernel
theorem d_IS_send_12 : decode b_IS_send 12 = .ok (.iload_n 1, 1) := by decide +kernel
theorem d_IS_send_13 : decode b_IS_send 13 = .ok (.invokevirtual 85, 3) := by decide +kernel
theorem d_IS_send_16 : decode b_IS_send 16 = .ok (.iload_n 2, 1) := by decide +kernel
theorem d_IS_send_17 : decode b_IS_send 17 = .ok (.invokevirtual 89, 3) := by decide +kernel
theorem d_IS_send_20 : decode b_IS_send 20 = .ok (.istore_n 3, 1) := by decide +kernel
theorem d_IS_send_21 : decode b_IS_send 21 = .ok (.aload_n 0, 1) := by decide +kernel
theorem d_IS_send_22 : decode b_IS_send 22 = .ok (.iconst 1, 1) := by decide +kernel
theorem d_IS_send_23 : decode b_IS_send 23 = .ok (.iload_n 1, 1) := by decide +kernel
theorem d_IS_send_24 : decode b_IS_send 24 = .ok (.isub, 1) := by decide +kernel
theorem d_IS_send_25 : decode b_IS_send 25 = .ok (.invokevirtual 85, 3) := by decide +kernel
theorem d_IS_send_28 : decode b_IS_send 28 = .ok (.astore 4, 2) := by decide +kernel
theorem d_IS_send_30 : decode b_IS_send 30 = .ok (.aload_n 0, 1) := by decide +kernel
theorem d_IS_send_31 : decode b_IS_send 31 = .ok (.aload 4, 2) := by decide +kernel
theorem d_IS_send_33 : decode b_IS_send 33 = .ok (.invokevirtual 100, 3) := by decide +kernel
theorem d_IS_send_36 : decode b_IS_send 36 = .ok (.istore 5, 2) := by decide +kernel
theorem d_IS_send_38 : decode b_IS_send 38 = .ok (.aload 4, 2) := by decide +kernel
theorem d_IS_send_40 : decode b_IS_send 40 = .ok (.iload_n 3, 1) := by decide +kernel
theorem d_IS_send_41 : decode b_IS_send 41 = .ok (.invokevirtual 104, 3) := by decide +kernel
theorem d_IS_send_44 : decode b_IS_send 44 = .ok (.aload 4, 2) := by decide +kernel
theorem d_IS_send_46 : decode b_IS_send 46 = .ok (.iload_n 2, 1) := by decide +kernel
theorem d_IS_send_47 : decode b_IS_send 47 = .ok (.iload_n 3, 1) := by decide +kernel
theorem d_IS_send_48 : decode b_IS_send 48 = .ok (.invokevirtual 92, 3) := by decide +kernel
theorem d_IS_send_51 : decode b_IS_send 51 = .ok (.aload_n 0, 1) := by decide +kernel
theorem d_IS_send_52 : decode b_IS_send 52 = .ok (.aload 4, 2) := by decide +kernel
theorem d_IS_send_54 : decode b_IS_send 54 = .ok (.invokevirtual 100, 3) := by decide +kernel
theorem d_IS_send_57 : decode b_IS_send 57 = .ok (.iload 5, 2) := by decide +kernel
theorem d_IS_send_59 : decode b_IS_send 59 = .ok (.isub, 1) := by decide +kernel
theorem d_IS_send_60 : decode b_IS_send 60 = .ok (.ireturn, 1) := by decide +kernel
theorem d_IS_layersIn_0 : decode b_IS_layersIn 0 = .ok (.aload_n 0, 1) := by decide +kernel
theorem d_IS_layersIn_1 : decode b_IS_layersIn 1 = .ok (.aload_n 1, 1) := by decide +kernel
theorem d_IS_layersIn_2 : decode b_IS_layersIn 2 = .ok (.invokevirtual 195, 3) := by decide +kernel
theorem d_IS_layersIn_5 : decode b_IS_layersIn 5 = .ok (.iconst 0, 1) := by decide +kernel
theorem d_IS_layersIn_6 : decode b_IS_layersIn 6 = .ok (.istore_n 2, 1) := by decide +kernel
theorem d_IS_layersIn_7 : decode b_IS_layersIn 7 = .ok (.iconst 0, 1) := by decide +kernel
theorem d_IS_layersIn_8 : decode b_IS_layersIn 8 = .ok (.istore_n 3, 1) := by decide +kernel
theorem d_IS_layersIn_9 : decode b_IS_layersIn 9 = .ok (.iload_n 3, 1) := by decide +kernel
theorem d_IS_layersIn_10 : decode b_IS_layersIn 10 = .ok (.aload_n 0, 1) := by decide +kernel
theorem d_IS_layersIn_11 : decode b_IS_layersIn 11 = .ok (.getfield 16, 3) := by decide +kernel
theorem d_IS_layersIn_14 : decode b_IS_layersIn 14 = .ok (.invokevirtual 161, 3) := by decide +kernel
theorem d_IS_layersIn_17 : decode b_IS_layersIn 17 = .ok (.if_icmp .ge 21, 3) := by decide +kernel
theorem d_IS_layersIn_20 : decode b_IS_layersIn 20 = .ok (.aload_n 0, 1) := by decide +kernel
theorem d_IS_layersIn_21 : decode b_IS_layersIn 21 = .ok (.getfield 36, 3) := by decide +kernel
theorem d_IS_layersIn_24 : decode b_IS_layersIn 24 = .ok (.iload_n 3, 1) := by decide +kernel
theorem d_IS_layersIn_25 : decode b_IS_layersIn 25 = .ok (.baload, 1) := by decide +kernel
theorem d_IS_layersIn_26 : decode b_IS_layersIn 26 = .ok (.ifCond .eq 6, 3) := by decide +kernel
theorem d_IS_layersIn_29 : decode b_IS_layersIn 29 = .ok (.iinc 2 1, 3) := by decide +kernel
theorem d_IS_layersIn_32 : decode b_IS_layersIn 32 = .ok (.iinc 3 1, 3) := by decide +kernel
theorem d_IS_layersIn_35 : decode b_IS_layersIn 35 = .ok (.goto (-26), 3) := by decide +kernel
theorem d_IS_layersIn_38 : decode b_IS_layersIn 38 = .ok (.iload_n 2, 1) := by decide +kernel
theorem d_IS_layersIn_39 : decode b_IS_layersIn 39 = .ok (.ireturn, 1) := by decide +kernel
theorem d_IS_seeLayersOf_0 : decode b_IS_seeLayersOf 0 = .ok (.iconst 0, 1) := by decide +kernel
theorem d_IS_seeLayersOf_1 : decode b_IS_seeLayersOf 1 = .ok (.istore_n 2, 1) := by decide +kernel
theorem d_IS_seeLayersOf_2 : decode b_IS_seeLayersOf 2 = .ok (.iload_n 2, 1) := by decide +kernel
theorem d_IS_seeLayersOf_3 : decode b_IS_seeLayersOf 3 = .ok (.aload_n 0, 1) := by decide +kernel
theorem d_IS_seeLayersOf_4 : decode b_IS_seeLayersOf 4 = .ok (.getfield 36, 3) := by decide +kernel
theorem d_IS_seeLayersOf_7 : decode b_IS_seeLayersOf 7 = .ok (.arraylength, 1) := by decide +kernel
theorem d_IS_seeLayersOf_8 : decode b_IS_seeLayersOf 8 = .ok (.if_icmp .ge 16, 3) := by decide +kernel
end
section
theorem d_IS_seeLayersOf_11 : decode b_IS_seeLayersOf 11 = .ok (.aload_n 0, 1) := by decide +kernel
theorem d_IS_seeLayersOf_12 : decode b_IS_seeLayersOf 12 = .ok (.getfield 36, 3) := by decide +kernel
theorem d_IS_seeLayersOf_15 : decode b_IS_seeLayersOf 15 = .ok (.iload_n 2, 1) := by decide +kernel
theorem d_IS_seeLayersOf_16 : decode b_IS_seeLayersOf 16 = .ok (.iconst 0, 1) := by decide +kernel
theorem d_IS_seeLayersOf_17 : decode b_IS_seeLayersOf 17 = .ok (.bastore, 1) := by decide +kernel
theorem d_IS_seeLayersOf_18 : decode b_IS_seeLayersOf 18 = .ok (.iinc 2 1, 3) := by decide +kernel
theorem d_IS_seeLayersOf_21 : decode b_IS_seeLayersOf 21 = .ok (.goto (-19), 3) := by decide +kernel
theorem d_IS_seeLayersOf_24 : decode b_IS_seeLayersOf 24 = .ok (.iconst 0, 1) := by decide +kernel
theorem d_IS_seeLayersOf_25 : decode b_IS_seeLayersOf 25 = .ok (.istore_n 2, 1) := by decide +kernel
theorem d_IS_seeLayersOf_26 : decode b_IS_seeLayersOf 26 = .ok (.iload_n 2, 1) := by decide +kernel
theorem d_IS_seeLayersOf_27 : decode b_IS_seeLayersOf 27 = .ok (.aload_n 0, 1) := by decide +kernel
theorem d_IS_seeLayersOf_28 : decode b_IS_seeLayersOf 28 = .ok (.getfield 10, 3) := by decide +kernel
theorem d_IS_seeLayersOf_31 : decode b_IS_seeLayersOf 31 = .ok (.invokevirtual 161, 3) := by decide +kernel
theorem d_IS_seeLayersOf_34 : decode b_IS_seeLayersOf 34 = .ok (.if_icmp .ge 66, 3) := by decide +kernel
theorem d_IS_seeLayersOf_37 : decode b_IS_seeLayersOf 37 = .ok (.aload_n 1, 1) := by decide +kernel
theorem d_IS_seeLayersOf_38 : decode b_IS_seeLayersOf 38 = .ok (.iload_n 2, 1) := by decide +kernel
theorem d_IS_seeLayersOf_39 : decode b_IS_seeLayersOf 39 = .ok (.invokevirtual 57, 3) := by decide +kernel
theorem d_IS_seeLayersOf_42 : decode b_IS_seeLayersOf 42 = .ok (.ifCond .eq 52, 3) := by decide +kernel
theorem d_IS_seeLayersOf_45 : decode b_IS_seeLayersOf 45 = .ok (.aload_n 0, 1) := by decide +kernel
theorem d_IS_seeLayersOf_46 : decode b_IS_seeLayersOf 46 = .ok (.getfield 10, 3) := by decide +kernel
theorem d_IS_seeLayersOf_49 : decode b_IS_seeLayersOf 49 = .ok (.iload_n 2, 1) := by decide +kernel
theorem d_IS_seeLayersOf_50 : decode b_IS_seeLayersOf 50 = .ok (.invokevirtual 60, 3) := by decide +kernel
theorem d_IS_seeLayersOf_53 : decode b_IS_seeLayersOf 53 = .ok (.checkcast 44, 3) := by decide +kernel
theorem d_IS_seeLayersOf_56 : decode b_IS_seeLayersOf 56 = .ok (.getfield 125, 3) := by decide +kernel
theorem d_IS_seeLayersOf_59 : decode b_IS_seeLayersOf 59 = .ok (.astore_n 3, 1) := by decide +kernel
theorem d_IS_seeLayersOf_60 : decode b_IS_seeLayersOf 60 = .ok (.aload_n 3, 1) := by decide +kernel
theorem d_IS_seeLayersOf_61 : decode b_IS_seeLayersOf 61 = .ok (.arraylength, 1) := by decide +kernel
theorem d_IS_seeLayersOf_62 : decode b_IS_seeLayersOf 62 = .ok (.istore 4, 2) := by decide +kernel
theorem d_IS_seeLayersOf_64 : decode b_IS_seeLayersOf 64 = .ok (.iconst 0, 1) := by decide +kernel
theorem d_IS_seeLayersOf_65 : decode b_IS_seeLayersOf 65 = .ok (.istore 5, 2) := by decide +kernel
theorem d_IS_seeLayersOf_67 : decode b_IS_seeLayersOf 67 = .ok (.iload 5, 2) := by decide +kernel
theorem d_IS_seeLayersOf_69 : decode b_IS_seeLayersOf 69 = .ok (.iload 4, 2) := by decide +kernel
theorem d_IS_seeLayersOf_71 : decode b_IS_seeLayersOf 71 = .ok (.if_icmp .ge 23, 3) := by decide +kernel
theorem d_IS_seeLayersOf_74 : decode b_IS_seeLayersOf 74 = .ok (.aload_n 3, 1) := by decide +kernel
theorem d_IS_seeLayersOf_75 : decode b_IS_seeLayersOf 75 = .ok (.iload 5, 2) := by decide +kernel
theorem d_IS_seeLayersOf_77 : decode b_IS_seeLayersOf 77 = .ok (.iaload, 1) := by decide +kernel
theorem d_IS_seeLayersOf_78 : decode b_IS_seeLayersOf 78 = .ok (.istore 6, 2) := by decide +kernel
theorem d_IS_seeLayersOf_80 : decode b_IS_seeLayersOf 80 = .ok (.aload_n 0, 1) := by decide +kernel
theorem d_IS_seeLayersOf_81 : decode b_IS_seeLayersOf 81 = .ok (.getfield 36, 3) := by decide +kernel
theorem d_IS_seeLayersOf_84 : decode b_IS_seeLayersOf 84 = .ok (.iload 6, 2) := by decide +kernel
theorem d_IS_seeLayersOf_86 : decode b_IS_seeLayersOf 86 = .ok (.iconst 1, 1) := by decide +kernel
theorem d_IS_seeLayersOf_87 : decode b_IS_seeLayersOf 87 = .ok (.bastore, 1) := by decide +kernel
theorem d_IS_seeLayersOf_88 : decode b_IS_seeLayersOf 88 = .ok (.iinc 5 1, 3) := by decide +kernel
theorem d_IS_seeLayersOf_91 : decode b_IS_seeLayersOf 91 = .ok (.goto (-24), 3) := by decide +kernel
theorem d_IS_seeLayersOf_94 : decode b_IS_seeLayersOf 94 = .ok (.iinc 2 1, 3) := by decide +kernel
theorem d_IS_seeLayersOf_97 : decode b_IS_seeLayersOf 97 = .ok (.goto (-71), 3) := by decide +kernel
theorem d_IS_seeLayersOf_100 : decode b_IS_seeLayersOf 100 = .ok (.return_, 1) := by decide +kernel
theorem d_IS_collect_0 : decode b_IS_collect 0 = .ok (.iload_n 1, 1) := by decide +kernel
theorem d_IS_collect_1 : decode b_IS_collect 1 = .ok (.invokestatic 79, 3) := by decide +kernel
theorem d_IS_collect_4 : decode b_IS_collect 4 = .ok (.ifCond .ne 5, 3) := by decide +kernel
theorem d_IS_collect_7 : decode b_IS_collect 7 = .ok (.iconst (-1), 1) := by decide +kernel
theorem d_IS_collect_8 : decode b_IS_collect 8 = .ok (.ireturn, 1) := by decide +kernel
theorem d_IS_collect_9 : decode b_IS_collect 9 = .ok (.aload_n 0, 1) := by decide +kernel
theorem d_IS_collect_10 : decode b_IS_collect 10 = .ok (.aload_n 0, 1) := by decide +kernel
theorem d_IS_collect_11 : decode b_IS_collect 11 = .ok (.iload_n 1, 1) := by decide +kernel
theorem d_IS_collect_12 : decode b_IS_collect 12 = .ok (.invokevirtual 85, 3) := by decide +kernel
theorem d_IS_collect_15 : decode b_IS_collect 15 = .ok (.invokevirtual 100, 3) := by decide +kernel
theorem d_IS_collect_18 : decode b_IS_collect 18 = .ok (.istore_n 2, 1) := by decide +kernel
theorem d_IS_collect_19 : decode b_IS_collect 19 = .ok (.aload_n 0, 1) := by decide +kernel
theorem d_IS_collect_20 : decode b_IS_collect 20 = .ok (.iload_n 1, 1) := by decide +kernel
theorem d_IS_collect_21 : decode b_IS_collect 21 = .ok (.invokevirtual 85, 3) := by decide +kernel
theorem d_IS_collect_24 : decode b_IS_collect 24 = .ok (.invokevirtual 108, 3) := by decide +kernel
theorem d_IS_collect_27 : decode b_IS_collect 27 = .ok (.iload_n 2, 1) := by decide +kernel
theorem d_IS_collect_28 : decode b_IS_collect 28 = .ok (.aload_n 0, 1) := by decide +kernel
theorem d_IS_collect_29 : decode b_IS_collect 29 = .ok (.aload_n 0, 1) := by decide +kernel
theorem d_IS_collect_30 : decode b_IS_collect 30 = .ok (.iload_n 1, 1) := by decide +kernel
theorem d_IS_collect_31 : decode b_IS_collect 31 = .ok (.invokevirtual 85, 3) := by decide +kernel
theorem d_IS_collect_34 : decode b_IS_collect 34 = .ok (.invokevirtual 100, 3) := by decide +kernel
theorem d_IS_collect_37 : decode b_IS_collect 37 = .ok (.isub, 1) := by decide +kernel
theorem d_IS_collect_38 : decode b_IS_collect 38 = .ok (.ireturn, 1) := by decide +kernel
theorem d_ST_holdOnlyNamed_0 : decode b_ST_holdOnlyNamed 0 = .ok (.iconst 0, 1) := by decide +kernel
theorem d_ST_holdOnlyNamed_1 : decode b_ST_holdOnlyNamed 1 = .ok (.istore_n 1, 1) := by decide +kernel
theorem d_ST_holdOnlyNamed_2 : decode b_ST_holdOnlyNamed 2 = .ok (.iload_n 1, 1) := by decide +kernel
theorem d_ST_holdOnlyNamed_3 : decode b_ST_holdOnlyNamed 3 = .ok (.bipush 40, 2) := by decide +kernel
theorem d_ST_holdOnlyNamed_5 : decode b_ST_holdOnlyNamed 5 = .ok (.if_icmp .ge 16, 3) := by decide +kernel
theorem d_ST_holdOnlyNamed_8 : decode b_ST_holdOnlyNamed 8 = .ok (.aload_n 0, 1) := by decide +kernel
theorem d_ST_holdOnlyNamed_9 : decode b_ST_holdOnlyNamed 9 = .ok (.getfield 9, 3) := by decide +kernel
theorem d_ST_holdOnlyNamed_12 : decode b_ST_holdOnlyNamed 12 = .ok (.iload_n 1, 1) := by decide +kernel
theorem d_ST_holdOnlyNamed_13 : decode b_ST_holdOnlyNamed 13 = .ok (.iconst 0, 1) := by decide +kernel
theorem d_ST_holdOnlyNamed_14 : decode b_ST_holdOnlyNamed 14 = .ok (.bastore, 1) := by decide +kernel
theorem d_ST_holdOnlyNamed_15 : decode b_ST_holdOnlyNamed 15 = .ok (.iinc 1 1, 3) := by decide +kernel
theorem d_ST_holdOnlyNamed_18 : decode b_ST_holdOnlyNamed 18 = .ok (.goto (-16), 3) := by decide +kernel
theorem d_ST_holdOnlyNamed_21 : decode b_ST_holdOnlyNamed 21 = .ok (.aload_n 0, 1) := by decide +kernel
theorem d_ST_holdOnlyNamed_22 : decode b_ST_holdOnlyNamed 22 = .ok (.getfield 9, 3) := by decide +kernel
theorem d_ST_holdOnlyNamed_25 : decode b_ST_holdOnlyNamed 25 = .ok (.iconst 0, 1) := by decide +kernel
theorem d_ST_holdOnlyNamed_26 : decode b_ST_holdOnlyNamed 26 = .ok (.iconst 1, 1) := by decide +kernel
theorem d_ST_holdOnlyNamed_27 : decode b_ST_holdOnlyNamed 27 = .ok (.bastore, 1) := by decide +kernel
theorem d_ST_holdOnlyNamed_28 : decode b_ST_holdOnlyNamed 28 = .ok (.aload_n 0, 1) := by decide +kernel
theorem d_ST_holdOnlyNamed_29 : decode b_ST_holdOnlyNamed 29 = .ok (.getfield 15, 3) := by decide +kernel
theorem d_ST_holdOnlyNamed_32 : decode b_ST_holdOnlyNamed 32 = .ok (.astore_n 1, 1) := by decide +kernel
theorem d_ST_holdOnlyNamed_33 : decode b_ST_holdOnlyNamed 33 = .ok (.aload_n 1, 1) := by decide +kernel
theorem d_ST_holdOnlyNamed_34 : decode b_ST_holdOnlyNamed 34 = .ok (.arraylength, 1) := by decide +kernel
theorem d_ST_holdOnlyNamed_35 : decode b_ST_holdOnlyNamed 35 = .ok (.istore_n 2, 1) := by decide +kernel
theorem d_ST_holdOnlyNamed_36 : decode b_ST_holdOnlyNamed 36 = .ok (.iconst 0, 1) := by decide +kernel
theorem d_ST_holdOnlyNamed_37 : decode b_ST_holdOnlyNamed 37 = .ok (.istore_n 3, 1) := by decide +kernel
theorem d_ST_holdOnlyNamed_38 : decode b_ST_holdOnlyNamed 38 = .ok (.iload_n 3, 1) := by decide +kernel
theorem d_ST_holdOnlyNamed_39 : decode b_ST_holdOnlyNamed 39 = .ok (.iload_n 2, 1) := by decide +kernel
theorem d_ST_holdOnlyNamed_40 : decode b_ST_holdOnlyNamed 40 = .ok (.if_icmp .ge 20, 3) := by decide +kernel
theorem d_ST_holdOnlyNamed_43 : decode b_ST_holdOnlyNamed 43 = .ok (.aload_n 1, 1) := by decide +kernel
theorem d_ST_holdOnlyNamed_44 : decode b_ST_holdOnlyNamed 44 = .ok (.iload_n 3, 1) := by decide +kernel
theorem d_ST_holdOnlyNamed_45 : decode b_ST_holdOnlyNamed 45 = .ok (.iaload, 1) := by decide +kernel
theorem d_ST_holdOnlyNamed_46 : decode b_ST_holdOnlyNamed 46 = .ok (.istore 4, 2) := by decide +kernel
theorem d_ST_holdOnlyNamed_48 : decode b_ST_holdOnlyNamed 48 = .ok (.aload_n 0, 1) := by decide +kernel
theorem d_ST_holdOnlyNamed_49 : decode b_ST_holdOnlyNamed 49 = .ok (.iload 4, 2) := by decide +kernel
theorem d_ST_holdOnlyNamed_51 : decode b_ST_holdOnlyNamed 51 = .ok (.invokevirtual 25, 3) := by decide +kernel
theorem d_ST_holdOnlyNamed_54 : decode b_ST_holdOnlyNamed 54 = .ok (.iinc 3 1, 3) := by decide +kernel
theorem d_ST_holdOnlyNamed_57 : decode b_ST_holdOnlyNamed 57 = .ok (.goto (-19), 3) := by decide +kernel
theorem d_ST_holdOnlyNamed_60 : decode b_ST_holdOnlyNamed 60 = .ok (.return_, 1) := by decide +kernel
theorem d_IS_named_0 : decode b_IS_named 0 = .ok (.iload_n 1, 1) := by decide +kernel
theorem d_IS_named_1 : decode b_IS_named 1 = .ok (.invokestatic 79, 3) := by decide +kernel
theorem d_IS_named_4 : decode b_IS_named 4 = .ok (.ifCond .eq 10, 3) := by decide +kernel
theorem d_IS_named_7 : decode b_IS_named 7 = .ok (.iload_n 2, 1) := by decide +kernel
theorem d_IS_named_8 : decode b_IS_named 8 = .ok (.invokestatic 82, 3) := by decide +kernel
theorem d_IS_named_11 : decode b_IS_named 11 = .ok (.ifCond .ne 5, 3) := by decide +kernel
theorem d_IS_named_14 : decode b_IS_named 14 = .ok (.iconst (-1), 1) := by decide +kernel
theorem d_IS_named_15 : decode b_IS_named 15 = .ok (.ireturn, 1) := by decide +kernel
theorem d_IS_named_16 : decode b_IS_named 16 = .ok (.aload_n 0, 1) := by decide +kernel
theorem d_IS_named_17 : decode b_IS_named 17 = .ok (.iload_n 1, 1) := by decide +kernel
theorem d_IS_named_18 : decode b_IS_named 18 = .ok (.invokevirtual 85, 3) := by decide +kernel
theorem d_IS_named_21 : decode b_IS_named 21 = .ok (.iload_n 2, 1) := by decide +kernel
theorem d_IS_named_22 : decode b_IS_named 22 = .ok (.invokevirtual 89, 3) := by decide +kernel
theorem d_IS_named_25 : decode b_IS_named 25 = .ok (.ireturn, 1) := by decide +kernel
theorem d_IS_held_0 : decode b_IS_held 0 = .ok (.iload_n 1, 1) := by decide +kernel
theorem d_IS_held_1 : decode b_IS_held 1 = .ok (.invokestatic 79, 3) := by decide +kernel
theorem d_IS_held_4 : decode b_IS_held 4 = .ok (.ifCond .eq 19, 3) := by decide +kernel
theorem d_IS_held_7 : decode b_IS_held 7 = .ok (.aload_n 0, 1) := by decide +kernel
theorem d_IS_held_8 : decode b_IS_held 8 = .ok (.iload_n 1, 1) := by decide +kernel
theorem d_IS_held_9 : decode b_IS_held 9 = .ok (.invokevirtual 85, 3) := by decide +kernel
theorem d_IS_held_12 : decode b_IS_held 12 = .ok (.iload_n 2, 1) := by decide +kernel
theorem d_IS_held_13 : decode b_IS_held 13 = .ok (.invokevirtual 57, 3) := by decide +kernel
theorem d_IS_held_16 : decode b_IS_held 16 = .ok (.ifCond .eq 7, 3) := by decide +kernel
theorem d_IS_held_19 : decode b_IS_held 19 = .ok (.iconst 1, 1) := by decide +kernel
theorem d_IS_held_20 : decode b_IS_held 20 = .ok (.goto 4, 3) := by decide +kernel
theorem d_IS_held_23 : decode b_IS_held 23 = .ok (.iconst 0, 1) := by decide +kernel
theorem d_IS_held_24 : decode b_IS_held 24 = .ok (.ireturn, 1) := by decide +kernel
theorem d_IS_look_0 : decode b_IS_look 0 = .ok (.aload_n 0, 1) := by decide +kernel
theorem d_IS_look_1 : decode b_IS_look 1 = .ok (.iload_n 1, 1) := by decide +kernel
theorem d_IS_look_2 : decode b_IS_look 2 = .ok (.invokevirtual 53, 3) := by decide +kernel
theorem d_IS_look_5 : decode b_IS_look 5 = .ok (.ifCond .eq 10, 3) := by decide +kernel
theorem d_IS_look_8 : decode b_IS_look 8 = .ok (.iload_n 2, 1) := by decide +kernel
theorem d_IS_look_9 : decode b_IS_look 9 = .ok (.invokestatic 111, 3) := by decide +kernel
theorem d_IS_look_12 : decode b_IS_look 12 = .ok (.ifCond .ne 7, 3) := by decide +kernel
theorem d_IS_look_15 : decode b_IS_look 15 = .ok (.ldc2_w 116, 3) := by decide +kernel
theorem d_IS_look_18 : decode b_IS_look 18 = .ok (.lreturn, 1) := by decide +kernel
theorem d_IS_look_19 : decode b_IS_look 19 = .ok (.aload_n 0, 1) := by decide +kernel
theorem d_IS_look_20 : decode b_IS_look 20 = .ok (.getfield 10, 3) := by decide +kernel
theorem d_IS_look_23 : decode b_IS_look 23 = .ok (.iload_n 1, 1) := by decide +kernel
theorem d_IS_look_24 : decode b_IS_look 24 = .ok (.invokevirtual 60, 3) := by decide +kernel
theorem d_IS_look_27 : decode b_IS_look 27 = .ok (.checkcast 44, 3) := by decide +kernel
theorem d_IS_look_30 : decode b_IS_look 30 = .ok (.getfield 64, 3) := by decide +kernel
theorem d_IS_look_33 : decode b_IS_look 33 = .ok (.iload_n 2, 1) := by decide +kernel
theorem d_IS_look_34 : decode b_IS_look 34 = .ok (.invokevirtual 118, 3) := by decide +kernel
theorem d_IS_look_37 : decode b_IS_look 37 = .ok (.lreturn, 1) := by decide +kernel
theorem d_PA_inRange_0 : decode b_PA_inRange 0 = .ok (.iload_n 0, 1) := by decide +kernel
theorem d_PA_inRange_1 : decode b_PA_inRange 1 = .ok (.ifCond .lt 13, 3) := by decide +kernel
theorem d_PA_inRange_4 : decode b_PA_inRange 4 = .ok (.iload_n 0, 1) := by decide +kernel
theorem d_PA_inRange_5 : decode b_PA_inRange 5 = .ok (.bipush 125, 2) := by decide +kernel
theorem d_PA_inRange_7 : decode b_PA_inRange 7 = .ok (.if_icmp .ge 7, 3) := by decide +kernel
theorem d_PA_inRange_10 : decode b_PA_inRange 10 = .ok (.iconst 1, 1) := by decide +kernel
theorem d_PA_inRange_11 : decode b_PA_inRange 11 = .ok (.goto 4, 3) := by decide +kernel
theorem d_PA_inRange_14 : decode b_PA_inRange 14 = .ok (.iconst 0, 1) := by decide +kernel
theorem d_PA_inRange_15 : decode b_PA_inRange 15 = .ok (.ireturn, 1) := by decide +kernel
theorem d_IS_next_0 : decode b_IS_next 0 = .ok (.aload_n 0, 1) := by decide +kernel
theorem d_IS_next_1 : decode b_IS_next 1 = .ok (.iload_n 1, 1) := by decide +kernel
theorem d_IS_next_2 : decode b_IS_next 2 = .ok (.invokevirtual 53, 3) := by decide +kernel
theorem d_IS_next_5 : decode b_IS_next 5 = .ok (.ifCond .eq 10, 3) := by decide +kernel
theorem d_IS_next_8 : decode b_IS_next 8 = .ok (.iload_n 2, 1) := by decide +kernel
theorem d_IS_next_9 : decode b_IS_next 9 = .ok (.invokestatic 111, 3) := by decide +kernel
theorem d_IS_next_12 : decode b_IS_next 12 = .ok (.ifCond .ne 5, 3) := by decide +kernel
theorem d_IS_next_15 : decode b_IS_next 15 = .ok (.iconst (-1), 1) := by decide +kernel
theorem d_IS_next_16 : decode b_IS_next 16 = .ok (.ireturn, 1) := by decide +kernel
theorem d_IS_next_17 : decode b_IS_next 17 = .ok (.aload_n 0, 1) := by decide +kernel
theorem d_IS_next_18 : decode b_IS_next 18 = .ok (.getfield 10, 3) := by decide +kernel
theorem d_IS_next_21 : decode b_IS_next 21 = .ok (.iload_n 1, 1) := by decide +kernel
theorem d_IS_next_22 : decode b_IS_next 22 = .ok (.invokevirtual 60, 3) := by decide +kernel
theorem d_IS_next_25 : decode b_IS_next 25 = .ok (.checkcast 44, 3) := by decide +kernel
theorem d_IS_next_28 : decode b_IS_next 28 = .ok (.getfield 64, 3) := by decide +kernel
theorem d_IS_next_31 : decode b_IS_next 31 = .ok (.iload_n 2, 1) := by decide +kernel
theorem d_IS_next_32 : decode b_IS_next 32 = .ok (.invokevirtual 122, 3) := by decide +kernel
theorem d_IS_next_35 : decode b_IS_next 35 = .ok (.ireturn, 1) := by decide +kernel
theorem d_TR_presentAfter_0 : decode b_TR_presentAfter 0 = .ok (.iload_n 1, 1) := by decide +kernel
theorem d_TR_presentAfter_1 : decode b_TR_presentAfter 1 = .ok (.iconst 1, 1) := by decide +kernel
theorem d_TR_presentAfter_2 : decode b_TR_presentAfter 2 = .ok (.iadd, 1) := by decide +kernel
theorem d_TR_presentAfter_3 : decode b_TR_presentAfter 3 = .ok (.istore_n 2, 1) := by decide +kernel
theorem d_TR_presentAfter_4 : decode b_TR_presentAfter 4 = .ok (.iload_n 2, 1) := by decide +kernel
theorem d_TR_presentAfter_5 : decode b_TR_presentAfter 5 = .ok (.bipush 125, 2) := by decide +kernel
theorem d_TR_presentAfter_7 : decode b_TR_presentAfter 7 = .ok (.if_icmp .ge 22, 3) := by decide +kernel
theorem d_TR_presentAfter_10 : decode b_TR_presentAfter 10 = .ok (.aload_n 0, 1) := by decide +kernel
theorem d_TR_presentAfter_11 : decode b_TR_presentAfter 11 = .ok (.getfield 9, 3) := by decide +kernel
theorem d_TR_presentAfter_14 : decode b_TR_presentAfter 14 = .ok (.iload_n 2, 1) := by decide +kernel
theorem d_TR_presentAfter_15 : decode b_TR_presentAfter 15 = .ok (.laload, 1) := by decide +kernel
theorem d_TR_presentAfter_16 : decode b_TR_presentAfter 16 = .ok (.ldc2_w 15, 3) := by decide +kernel
theorem d_TR_presentAfter_19 : decode b_TR_presentAfter 19 = .ok (.lcmp, 1) := by decide +kernel
theorem d_TR_presentAfter_20 : decode b_TR_presentAfter 20 = .ok (.ifCond .ne 9, 3) := by decide +kernel
theorem d_TR_presentAfter_23 : decode b_TR_presentAfter 23 = .ok (.iinc 2 1, 3) := by decide +kernel
theorem d_TR_presentAfter_26 : decode b_TR_presentAfter 26 = .ok (.goto (-22), 3) := by decide +kernel
theorem d_TR_presentAfter_29 : decode b_TR_presentAfter 29 = .ok (.iload_n 2, 1) := by decide +kernel
theorem d_TR_presentAfter_30 : decode b_TR_presentAfter 30 = .ok (.ireturn, 1) := by decide +kernel
theorem d_IS_layers_0 : decode b_IS_layers 0 = .ok (.aload_n 0, 1) := by decide +kernel
theorem d_IS_layers_1 : decode b_IS_layers 1 = .ok (.iload_n 1, 1) := by decide +kernel
theorem d_IS_layers_2 : decode b_IS_layers 2 = .ok (.invokevirtual 53, 3) := by decide +kernel
theorem d_IS_layers_5 : decode b_IS_layers 5 = .ok (.ifCond .eq 21, 3) := by decide +kernel
theorem d_IS_layers_8 : decode b_IS_layers 8 = .ok (.aload_n 0, 1) := by decide +kernel
theorem d_IS_layers_9 : decode b_IS_layers 9 = .ok (.getfield 10, 3) := by decide +kernel
theorem d_IS_layers_12 : decode b_IS_layers 12 = .ok (.iload_n 1, 1) := by decide +kernel
theorem d_IS_layers_13 : decode b_IS_layers 13 = .ok (.invokevirtual 60, 3) := by decide +kernel
theorem d_IS_layers_16 : decode b_IS_layers 16 = .ok (.checkcast 44, 3) := by decide +kernel
theorem d_IS_layers_19 : decode b_IS_layers 19 = .ok (.getfield 125, 3) := by decide +kernel
theorem d_IS_layers_22 : decode b_IS_layers 22 = .ok (.arraylength, 1) := by decide +kernel
theorem d_IS_layers_23 : decode b_IS_layers 23 = .ok (.goto 4, 3) := by decide +kernel
theorem d_IS_layers_26 : decode b_IS_layers 26 = .ok (.iconst (-1), 1) := by decide +kernel
theorem d_IS_layers_27 : decode b_IS_layers 27 = .ok (.ireturn, 1) := by decide +kernel
theorem d_IS_entries_0 : decode b_IS_entries 0 = .ok (.aload_n 0, 1) := by decide +kernel
theorem d_IS_entries_1 : decode b_IS_entries 1 = .ok (.iload_n 1, 1) := by decide +kernel
theorem d_IS_entries_2 : decode b_IS_entries 2 = .ok (.iload_n 2, 1) := by decide +kernel
theorem d_IS_entries_3 : decode b_IS_entries 3 = .ok (.invokevirtual 129, 3) := by decide +kernel
theorem d_IS_entries_6 : decode b_IS_entries 6 = .ok (.ifCond .eq 15, 3) := by decide +kernel
theorem d_IS_entries_9 : decode b_IS_entries 9 = .ok (.aload_n 0, 1) := by decide +kernel
theorem d_IS_entries_10 : decode b_IS_entries 10 = .ok (.iload_n 1, 1) := by decide +kernel
theorem d_IS_entries_11 : decode b_IS_entries 11 = .ok (.iload_n 2, 1) := by decide +kernel
theorem d_IS_entries_12 : decode b_IS_entries 12 = .ok (.invokevirtual 132, 3) := by decide +kernel
theorem d_IS_entries_15 : decode b_IS_entries 15 = .ok (.invokevirtual 136, 3) := by decide +kernel
theorem d_IS_entries_18 : decode b_IS_entries 18 = .ok (.goto 4, 3) := by decide +kernel
theorem d_IS_entries_21 : decode b_IS_entries 21 = .ok (.iconst (-1), 1) := by decide +kernel
theorem d_IS_entries_22 : decode b_IS_entries 22 = .ok (.ireturn, 1) := by decide +kernel
theorem d_IS_hasLayer_0 : decode b_IS_hasLayer 0 = .ok (.aload_n 0, 1) := by decide +kernel
theorem d_IS_hasLayer_1 : decode b_IS_hasLayer 1 = .ok (.iload_n 1, 1) := by decide +kernel
theorem d_IS_hasLayer_2 : decode b_IS_hasLayer 2 = .ok (.invokevirtual 53, 3) := by decide +kernel
theorem d_IS_hasLayer_5 : decode b_IS_hasLayer 5 = .ok (.ifCond .eq 30, 3) := by decide +kernel
theorem d_IS_hasLayer_8 : decode b_IS_hasLayer 8 = .ok (.iload_n 2, 1) := by decide +kernel
theorem d_IS_hasLayer_9 : decode b_IS_hasLayer 9 = .ok (.ifCond .lt 26, 3) := by decide +kernel
theorem d_IS_hasLayer_12 : decode b_IS_hasLayer 12 = .ok (.iload_n 2, 1) := by decide +kernel
theorem d_IS_hasLayer_13 : decode b_IS_hasLayer 13 = .ok (.aload_n 0, 1) := by decide +kernel
theorem d_IS_hasLayer_14 : decode b_IS_hasLayer 14 = .ok (.getfield 10, 3) := by decide +kernel
theorem d_IS_hasLayer_17 : decode b_IS_hasLayer 17 = .ok (.iload_n 1, 1) := by decide +kernel
theorem d_IS_hasLayer_18 : decode b_IS_hasLayer 18 = .ok (.invokevirtual 60, 3) := by decide +kernel
theorem d_IS_hasLayer_21 : decode b_IS_hasLayer 21 = .ok (.checkcast 44, 3) := by decide +kernel
theorem d_IS_hasLayer_24 : decode b_IS_hasLayer 24 = .ok (.getfield 125, 3) := by decide +kernel
theorem d_IS_hasLayer_27 : decode b_IS_hasLayer 27 = .ok (.arraylength, 1) := by decide +kernel
theorem d_IS_hasLayer_28 : decode b_IS_hasLayer 28 = .ok (.if_icmp .ge 7, 3) := by decide +kernel
theorem d_IS_hasLayer_31 : decode b_IS_hasLayer 31 = .ok (.iconst 1, 1) := by decide +kernel
theorem d_IS_hasLayer_32 : decode b_IS_hasLayer 32 = .ok (.goto 4, 3) := by decide +kernel
theorem d_IS_hasLayer_35 : decode b_IS_hasLayer 35 = .ok (.iconst 0, 1) := by decide +kernel
theorem d_IS_hasLayer_36 : decode b_IS_hasLayer 36 = .ok (.ireturn, 1) := by decide +kernel
theorem d_IS_layerOf_0 : decode b_IS_layerOf 0 = .ok (.aload_n 0, 1) := by decide +kernel
theorem d_IS_layerOf_1 : decode b_IS_layerOf 1 = .ok (.getfield 16, 3) := by decide +kernel
theorem d_IS_layerOf_4 : decode b_IS_layerOf 4 = .ok (.aload_n 0, 1) := by decide +kernel
theorem d_IS_layerOf_5 : decode b_IS_layerOf 5 = .ok (.getfield 10, 3) := by decide +kernel
theorem d_IS_layerOf_8 : decode b_IS_layerOf 8 = .ok (.iload_n 1, 1) := by decide +kernel
theorem d_IS_layerOf_9 : decode b_IS_layerOf 9 = .ok (.invokevirtual 60, 3) := by decide +kernel
theorem d_IS_layerOf_12 : decode b_IS_layerOf 12 = .ok (.checkcast 44, 3) := by decide +kernel
theorem d_IS_layerOf_15 : decode b_IS_layerOf 15 = .ok (.getfield 125, 3) := by decide +kernel
theorem d_IS_layerOf_18 : decode b_IS_layerOf 18 = .ok (.iload_n 2, 1) := by decide +kernel
theorem d_IS_layerOf_19 : decode b_IS_layerOf 19 = .ok (.iaload, 1) := by decide +kernel
theorem d_IS_layerOf_20 : decode b_IS_layerOf 20 = .ok (.invokevirtual 60, 3) := by decide +kernel
theorem d_IS_layerOf_23 : decode b_IS_layerOf 23 = .ok (.checkcast 137, 3) := by decide +kernel
theorem d_IS_layerOf_26 : decode b_IS_layerOf 26 = .ok (.areturn, 1) := by decide +kernel
theorem d_LY_size_0 : decode b_LY_size 0 = .ok (.aload_n 0, 1) := by decide +kernel
theorem d_LY_size_1 : decode b_LY_size 1 = .ok (.getfield 17, 3) := by decide +kernel
theorem d_LY_size_4 : decode b_LY_size 4 = .ok (.arraylength, 1) := by decide +kernel
theorem d_LY_size_5 : decode b_LY_size 5 = .ok (.ireturn, 1) := by decide +kernel
theorem d_IS_entryPath_0 : decode b_IS_entryPath 0 = .ok (.aload_n 0, 1) := by decide +kernel
theorem d_IS_entryPath_1 : decode b_IS_entryPath 1 = .ok (.iload_n 1, 1) := by decide +kernel
theorem d_IS_entryPath_2 : decode b_IS_entryPath 2 = .ok (.iload_n 2, 1) := by decide +kernel
theorem d_IS_entryPath_3 : decode b_IS_entryPath 3 = .ok (.iload_n 3, 1) := by decide +kernel
theorem d_IS_entryPath_4 : decode b_IS_entryPath 4 = .ok (.invokevirtual 142, 3) := by decide +kernel
theorem d_IS_entryPath_7 : decode b_IS_entryPath 7 = .ok (.ifCond .eq 17, 3) := by decide +kernel
theorem d_IS_entryPath_10 : decode b_IS_entryPath 10 = .ok (.aload_n 0, 1) := by decide +kernel
theorem d_IS_entryPath_11 : decode b_IS_entryPath 11 = .ok (.iload_n 1, 1) := by decide +kernel
theorem d_IS_entryPath_12 : decode b_IS_entryPath 12 = .ok (.iload_n 2, 1) := by decide +kernel
theorem d_IS_entryPath_13 : decode b_IS_entryPath 13 = .ok (.invokevirtual 132, 3) := by decide +kernel
theorem d_IS_entryPath_16 : decode b_IS_entryPath 16 = .ok (.getfield 145, 3) := by decide +kernel
theorem d_IS_entryPath_19 : decode b_IS_entryPath 19 = .ok (.iload_n 3, 1) := by decide +kernel
theorem d_IS_entryPath_20 : decode b_IS_entryPath 20 = .ok (.iaload, 1) := by decide +kernel
theorem d_IS_entryPath_21 : decode b_IS_entryPath 21 = .ok (.goto 4, 3) := by decide +kernel
theorem d_IS_entryPath_24 : decode b_IS_entryPath 24 = .ok (.iconst (-1), 1) := by decide +kernel
theorem d_IS_entryPath_25 : decode b_IS_entryPath 25 = .ok (.ireturn, 1) := by decide +kernel
theorem d_IS_hasEntry_0 : decode b_IS_hasEntry 0 = .ok (.aload_n 0, 1) := by decide +kernel
theorem d_IS_hasEntry_1 : decode b_IS_hasEntry 1 = .ok (.iload_n 1, 1) := by decide +kernel
theorem d_IS_hasEntry_2 : decode b_IS_hasEntry 2 = .ok (.iload_n 2, 1) := by decide +kernel
theorem d_IS_hasEntry_3 : decode b_IS_hasEntry 3 = .ok (.invokevirtual 129, 3) := by decide +kernel
theorem d_IS_hasEntry_6 : decode b_IS_hasEntry 6 = .ok (.ifCond .eq 24, 3) := by decide +kernel
theorem d_IS_hasEntry_9 : decode b_IS_hasEntry 9 = .ok (.iload_n 3, 1) := by decide +kernel
theorem d_IS_hasEntry_10 : decode b_IS_hasEntry 10 = .ok (.ifCond .lt 20, 3) := by decide +kernel
theorem d_IS_hasEntry_13 : decode b_IS_hasEntry 13 = .ok (.iload_n 3, 1) := by decide +kernel
theorem d_IS_hasEntry_14 : decode b_IS_hasEntry 14 = .ok (.aload_n 0, 1) := by decide +kernel
theorem d_IS_hasEntry_15 : decode b_IS_hasEntry 15 = .ok (.iload_n 1, 1) := by decide +kernel
theorem d_IS_hasEntry_16 : decode b_IS_hasEntry 16 = .ok (.iload_n 2, 1) := by decide +kernel
theorem d_IS_hasEntry_17 : decode b_IS_hasEntry 17 = .ok (.invokevirtual 132, 3) := by decide +kernel
theorem d_IS_hasEntry_20 : decode b_IS_hasEntry 20 = .ok (.invokevirtual 136, 3) := by decide +kernel
theorem d_IS_hasEntry_23 : decode b_IS_hasEntry 23 = .ok (.if_icmp .ge 7, 3) := by decide +kernel
theorem d_IS_hasEntry_26 : decode b_IS_hasEntry 26 = .ok (.iconst 1, 1) := by decide +kernel
theorem d_IS_hasEntry_27 : decode b_IS_hasEntry 27 = .ok (.goto 4, 3) := by decide +kernel
theorem d_IS_hasEntry_30 : decode b_IS_hasEntry 30 = .ok (.iconst 0, 1) := by decide +kernel
theorem d_IS_hasEntry_31 : decode b_IS_hasEntry 31 = .ok (.ireturn, 1) := by decide +kernel
theorem d_IS_entryMark_0 : decode b_IS_entryMark 0 = .ok (.aload_n 0, 1) := by decide +kernel
theorem d_IS_entryMark_1 : decode b_IS_entryMark 1 = .ok (.iload_n 1, 1) := by decide +kernel
theorem d_IS_entryMark_2 : decode b_IS_entryMark 2 = .ok (.iload_n 2, 1) := by decide +kernel
theorem d_IS_entryMark_3 : decode b_IS_entryMark 3 = .ok (.iload_n 3, 1) := by decide +kernel
theorem d_IS_entryMark_4 : decode b_IS_entryMark 4 = .ok (.invokevirtual 142, 3) := by decide +kernel
theorem d_IS_entryMark_7 : decode b_IS_entryMark 7 = .ok (.ifCond .eq 17, 3) := by decide +kernel
theorem d_IS_entryMark_10 : decode b_IS_entryMark 10 = .ok (.aload_n 0, 1) := by decide +kernel
theorem d_IS_entryMark_11 : decode b_IS_entryMark 11 = .ok (.iload_n 1, 1) := by decide +kernel
theorem d_IS_entryMark_12 : decode b_IS_entryMark 12 = .ok (.iload_n 2, 1) := by decide +kernel
theorem d_IS_entryMark_13 : decode b_IS_entryMark 13 = .ok (.invokevirtual 132, 3) := by decide +kernel
theorem d_IS_entryMark_16 : decode b_IS_entryMark 16 = .ok (.getfield 148, 3) := by decide +kernel
theorem d_IS_entryMark_19 : decode b_IS_entryMark 19 = .ok (.iload_n 3, 1) := by decide +kernel
theorem d_IS_entryMark_20 : decode b_IS_entryMark 20 = .ok (.laload, 1) := by decide +kernel
theorem d_IS_entryMark_21 : decode b_IS_entryMark 21 = .ok (.goto 6, 3) := by decide +kernel
theorem d_IS_entryMark_24 : decode b_IS_entryMark 24 = .ok (.ldc2_w 116, 3) := by decide +kernel
theorem d_IS_entryMark_27 : decode b_IS_entryMark 27 = .ok (.lreturn, 1) := by decide +kernel
theorem d_IS_common_0 : decode b_IS_common 0 = .ok (.aload_n 0, 1) := by decide +kernel
theorem d_IS_common_1 : decode b_IS_common 1 = .ok (.iload_n 1, 1) := by decide +kernel
theorem d_IS_common_2 : decode b_IS_common 2 = .ok (.invokevirtual 53, 3) := by decide +kernel
theorem d_IS_common_5 : decode b_IS_common 5 = .ok (.ifCond .eq 11, 3) := by decide +kernel
theorem d_IS_common_8 : decode b_IS_common 8 = .ok (.aload_n 0, 1) := by decide +kernel
theorem d_IS_common_9 : decode b_IS_common 9 = .ok (.iload_n 2, 1) := by decide +kernel
theorem d_IS_common_10 : decode b_IS_common 10 = .ok (.invokevirtual 53, 3) := by decide +kernel
theorem d_IS_common_13 : decode b_IS_common 13 = .ok (.ifCond .ne 5, 3) := by decide +kernel
theorem d_IS_common_16 : decode b_IS_common 16 = .ok (.iconst (-1), 1) := by decide +kernel
theorem d_IS_common_17 : decode b_IS_common 17 = .ok (.ireturn, 1) := by decide +kernel
theorem d_IS_common_18 : decode b_IS_common 18 = .ok (.aload_n 0, 1) := by decide +kernel
theorem d_IS_common_19 : decode b_IS_common 19 = .ok (.getfield 10, 3) := by decide +kernel
theorem d_IS_common_22 : decode b_IS_common 22 = .ok (.iload_n 1, 1) := by decide +kernel
theorem d_IS_common_23 : decode b_IS_common 23 = .ok (.invokevirtual 60, 3) := by decide +kernel
theorem d_IS_common_26 : decode b_IS_common 26 = .ok (.checkcast 44, 3) := by decide +kernel
theorem d_IS_common_29 : decode b_IS_common 29 = .ok (.getfield 125, 3) := by decide +kernel
theorem d_IS_common_32 : decode b_IS_common 32 = .ok (.astore_n 3, 1) := by decide +kernel
theorem d_IS_common_33 : decode b_IS_common 33 = .ok (.aload_n 0, 1) := by decide +kernel
theorem d_IS_common_34 : decode b_IS_common 34 = .ok (.getfield 10, 3) := by decide +kernel
theorem d_IS_common_37 : decode b_IS_common 37 = .ok (.iload_n 2, 1) := by decide +kernel
theorem d_IS_common_38 : decode b_IS_common 38 = .ok (.invokevirtual 60, 3) := by decide +kernel
theorem d_IS_common_41 : decode b_IS_common 41 = .ok (.checkcast 44, 3) := by decide +kernel
theorem d_IS_common_44 : decode b_IS_common 44 = .ok (.getfield 125, 3) := by decide +kernel
theorem d_IS_common_47 : decode b_IS_common 47 = .ok (.astore 4, 2) := by decide +kernel
theorem d_IS_common_49 : decode b_IS_common 49 = .ok (.aload_n 3, 1) := by decide +kernel
theorem d_IS_common_50 : decode b_IS_common 50 = .ok (.arraylength, 1) := by decide +kernel
theorem d_IS_common_51 : decode b_IS_common 51 = .ok (.aload 4, 2) := by decide +kernel
theorem d_IS_common_53 : decode b_IS_common 53 = .ok (.arraylength, 1) := by decide +kernel
theorem d_IS_common_54 : decode b_IS_common 54 = .ok (.invokestatic 152, 3) := by decide +kernel
theorem d_IS_common_57 : decode b_IS_common 57 = .ok (.istore 5, 2) := by decide +kernel
theorem d_IS_common_59 : decode b_IS_common 59 = .ok (.iconst 0, 1) := by decide +kernel
theorem d_IS_common_60 : decode b_IS_common 60 = .ok (.istore 6, 2) := by decide +kernel
theorem d_IS_common_62 : decode b_IS_common 62 = .ok (.iload 6, 2) := by decide +kernel
theorem d_IS_common_64 : decode b_IS_common 64 = .ok (.iload 5, 2) := by decide +kernel
theorem d_IS_common_66 : decode b_IS_common 66 = .ok (.if_icmp .ge 21, 3) := by decide +kernel
theorem d_IS_common_69 : decode b_IS_common 69 = .ok (.aload_n 3, 1) := by decide +kernel
theorem d_IS_common_70 : decode b_IS_common 70 = .ok (.iload 6, 2) := by decide +kernel
theorem d_IS_common_72 : decode b_IS_common 72 = .ok (.iaload, 1) := by decide +kernel
theorem d_IS_common_73 : decode b_IS_common 73 = .ok (.aload 4, 2) := by decide +kernel
theorem d_IS_common_75 : decode b_IS_common 75 = .ok (.iload 6, 2) := by decide +kernel
theorem d_IS_common_77 : decode b_IS_common 77 = .ok (.iaload, 1) := by decide +kernel
theorem d_IS_common_78 : decode b_IS_common 78 = .ok (.if_icmp .ne 9, 3) := by decide +kernel
theorem d_IS_common_81 : decode b_IS_common 81 = .ok (.iinc 6 1, 3) := by decide +kernel
theorem d_IS_common_84 : decode b_IS_common 84 = .ok (.goto (-22), 3) := by decide +kernel
theorem d_IS_common_87 : decode b_IS_common 87 = .ok (.iload 6, 2) := by decide +kernel
theorem d_IS_common_89 : decode b_IS_common 89 = .ok (.ireturn, 1) := by decide +kernel
theorem d_IS_shared_0 : decode b_IS_shared 0 = .ok (.aload_n 0, 1) := by decide +kernel
theorem d_IS_shared_1 : decode b_IS_shared 1 = .ok (.iload_n 1, 1) := by decide +kernel
theorem d_IS_shared_2 : decode b_IS_shared 2 = .ok (.invokevirtual 53, 3) := by decide +kernel
theorem d_IS_shared_5 : decode b_IS_shared 5 = .ok (.ifCond .eq 11, 3) := by decide +kernel
theorem d_IS_shared_8 : decode b_IS_shared 8 = .ok (.aload_n 0, 1) := by decide +kernel
theorem d_IS_shared_9 : decode b_IS_shared 9 = .ok (.iload_n 2, 1) := by decide +kernel
theorem d_IS_shared_10 : decode b_IS_shared 10 = .ok (.invokevirtual 53, 3) := by decide +kernel
theorem d_IS_shared_13 : decode b_IS_shared 13 = .ok (.ifCond .ne 5, 3) := by decide +kernel
theorem d_IS_shared_16 : decode b_IS_shared 16 = .ok (.iconst (-1), 1) := by decide +kernel
theorem d_IS_shared_17 : decode b_IS_shared 17 = .ok (.ireturn, 1) := by decide +kernel
theorem d_IS_shared_18 : decode b_IS_shared 18 = .ok (.iconst 0, 1) := by decide +kernel
theorem d_IS_shared_19 : decode b_IS_shared 19 = .ok (.istore_n 3, 1) := by decide +kernel
theorem d_IS_shared_20 : decode b_IS_shared 20 = .ok (.aload_n 0, 1) := by decide +kernel
theorem d_IS_shared_21 : decode b_IS_shared 21 = .ok (.getfield 10, 3) := by decide +kernel
theorem d_IS_shared_24 : decode b_IS_shared 24 = .ok (.iload_n 1, 1) := by decide +kernel
theorem d_IS_shared_25 : decode b_IS_shared 25 = .ok (.invokevirtual 60, 3) := by decide +kernel
theorem d_IS_shared_28 : decode b_IS_shared 28 = .ok (.checkcast 44, 3) := by decide +kernel
theorem d_IS_shared_31 : decode b_IS_shared 31 = .ok (.getfield 125, 3) := by decide +kernel
theorem d_IS_shared_34 : decode b_IS_shared 34 = .ok (.astore 4, 2) := by decide +kernel
theorem d_IS_shared_36 : decode b_IS_shared 36 = .ok (.aload 4, 2) := by decide +kernel
theorem d_IS_shared_38 : decode b_IS_shared 38 = .ok (.arraylength, 1) := by decide +kernel
theorem d_IS_shared_39 : decode b_IS_shared 39 = .ok (.istore 5, 2) := by decide +kernel
theorem d_IS_shared_41 : decode b_IS_shared 41 = .ok (.iconst 0, 1) := by decide +kernel
theorem d_IS_shared_42 : decode b_IS_shared 42 = .ok (.istore 6, 2) := by decide +kernel
theorem d_IS_shared_44 : decode b_IS_shared 44 = .ok (.iload 6, 2) := by decide +kernel
theorem d_IS_shared_46 : decode b_IS_shared 46 = .ok (.iload 5, 2) := by decide +kernel
theorem d_IS_shared_48 : decode b_IS_shared 48 = .ok (.if_icmp .ge 38, 3) := by decide +kernel
theorem d_IS_shared_51 : decode b_IS_shared 51 = .ok (.aload 4, 2) := by decide +kernel
theorem d_IS_shared_53 : decode b_IS_shared 53 = .ok (.iload 6, 2) := by decide +kernel
theorem d_IS_shared_55 : decode b_IS_shared 55 = .ok (.iaload, 1) := by decide +kernel
theorem d_IS_shared_56 : decode b_IS_shared 56 = .ok (.istore 7, 2) := by decide +kernel
theorem d_IS_shared_58 : decode b_IS_shared 58 = .ok (.aload_n 0, 1) := by decide +kernel
theorem d_IS_shared_59 : decode b_IS_shared 59 = .ok (.getfield 10, 3) := by decide +kernel
theorem d_IS_shared_62 : decode b_IS_shared 62 = .ok (.iload_n 2, 1) := by decide +kernel
theorem d_IS_shared_63 : decode b_IS_shared 63 = .ok (.invokevirtual 60, 3) := by decide +kernel
theorem d_IS_shared_66 : decode b_IS_shared 66 = .ok (.checkcast 44, 3) := by decide +kernel
theorem d_IS_shared_69 : decode b_IS_shared 69 = .ok (.iload 7, 2) := by decide +kernel
theorem d_IS_shared_71 : decode b_IS_shared 71 = .ok (.invokevirtual 158, 3) := by decide +kernel
theorem d_IS_shared_74 : decode b_IS_shared 74 = .ok (.ifCond .eq 6, 3) := by decide +kernel
theorem d_IS_shared_77 : decode b_IS_shared 77 = .ok (.iinc 3 1, 3) := by decide +kernel
theorem d_IS_shared_80 : decode b_IS_shared 80 = .ok (.iinc 6 1, 3) := by decide +kernel
theorem d_IS_shared_83 : decode b_IS_shared 83 = .ok (.goto (-39), 3) := by decide +kernel
theorem d_IS_shared_86 : decode b_IS_shared 86 = .ok (.iload_n 3, 1) := by decide +kernel
theorem d_IS_shared_87 : decode b_IS_shared 87 = .ok (.ireturn, 1) := by decide +kernel
theorem d_IM_hasLayerNumber_0 : decode b_IM_hasLayerNumber 0 = .ok (.aload_n 0, 1) := by decide +kernel
theorem d_IM_hasLayerNumber_1 : decode b_IM_hasLayerNumber 1 = .ok (.getfield 17, 3) := by decide +kernel
theorem d_IM_hasLayerNumber_4 : decode b_IM_hasLayerNumber 4 = .ok (.astore_n 2, 1) := by decide +kernel
theorem d_IM_hasLayerNumber_5 : decode b_IM_hasLayerNumber 5 = .ok (.aload_n 2, 1) := by decide +kernel
theorem d_IM_hasLayerNumber_6 : decode b_IM_hasLayerNumber 6 = .ok (.arraylength, 1) := by decide +kernel
theorem d_IM_hasLayerNumber_7 : decode b_IM_hasLayerNumber 7 = .ok (.istore_n 3, 1) := by decide +kernel
theorem d_IM_hasLayerNumber_8 : decode b_IM_hasLayerNumber 8 = .ok (.iconst 0, 1) := by decide +kernel
theorem d_IM_hasLayerNumber_9 : decode b_IM_hasLayerNumber 9 = .ok (.istore 4, 2) := by decide +kernel
theorem d_IM_hasLayerNumber_11 : decode b_IM_hasLayerNumber 11 = .ok (.iload 4, 2) := by decide +kernel
theorem d_IM_hasLayerNumber_13 : decode b_IM_hasLayerNumber 13 = .ok (.iload_n 3, 1) := by decide +kernel
theorem d_IM_hasLayerNumber_14 : decode b_IM_hasLayerNumber 14 = .ok (.if_icmp .ge 23, 3) := by decide +kernel
theorem d_IM_hasLayerNumber_17 : decode b_IM_hasLayerNumber 17 = .ok (.aload_n 2, 1) := by decide +kernel
theorem d_IM_hasLayerNumber_18 : decode b_IM_hasLayerNumber 18 = .ok (.iload 4, 2) := by decide +kernel
theorem d_IM_hasLayerNumber_20 : decode b_IM_hasLayerNumber 20 = .ok (.iaload, 1) := by decide +kernel
theorem d_IM_hasLayerNumber_21 : decode b_IM_hasLayerNumber 21 = .ok (.istore 5, 2) := by decide +kernel
theorem d_IM_hasLayerNumber_23 : decode b_IM_hasLayerNumber 23 = .ok (.iload 5, 2) := by decide +kernel
theorem d_IM_hasLayerNumber_25 : decode b_IM_hasLayerNumber 25 = .ok (.iload_n 1, 1) := by decide +kernel
theorem d_IM_hasLayerNumber_26 : decode b_IM_hasLayerNumber 26 = .ok (.if_icmp .ne 5, 3) := by decide +kernel
theorem d_IM_hasLayerNumber_29 : decode b_IM_hasLayerNumber 29 = .ok (.iconst 1, 1) := by decide +kernel
theorem d_IM_hasLayerNumber_30 : decode b_IM_hasLayerNumber 30 = .ok (.ireturn, 1) := by decide +kernel
theorem d_IM_hasLayerNumber_31 : decode b_IM_hasLayerNumber 31 = .ok (.iinc 4 1, 3) := by decide +kernel
theorem d_IM_hasLayerNumber_34 : decode b_IM_hasLayerNumber 34 = .ok (.goto (-23), 3) := by decide +kernel
theorem d_IM_hasLayerNumber_37 : decode b_IM_hasLayerNumber 37 = .ok (.iconst 0, 1) := by decide +kernel
theorem d_IM_hasLayerNumber_38 : decode b_IM_hasLayerNumber 38 = .ok (.ireturn, 1) := by decide +kernel
theorem d_IS_count_0 : decode b_IS_count 0 = .ok (.iload_n 1, 1) := by decide +kernel
theorem d_IS_count_1 : decode b_IS_count 1 = .ok (.tableswitch 88 0 5 #[39, 47, 56, 65, 74, 83], 39) := by decide +kernel
theorem d_IS_count_40 : decode b_IS_count 40 = .ok (.aload_n 0, 1) := by decide +kernel
theorem d_IS_count_41 : decode b_IS_count 41 = .ok (.getfield 10, 3) := by decide +kernel
theorem d_IS_count_44 : decode b_IS_count 44 = .ok (.invokevirtual 161, 3) := by decide +kernel
theorem d_IS_count_47 : decode b_IS_count 47 = .ok (.ireturn, 1) := by decide +kernel
theorem d_IS_count_48 : decode b_IS_count 48 = .ok (.aload_n 0, 1) := by decide +kernel
theorem d_IS_count_49 : decode b_IS_count 49 = .ok (.aload_n 0, 1) := by decide +kernel
theorem d_IS_count_50 : decode b_IS_count 50 = .ok (.getfield 22, 3) := by decide +kernel
theorem d_IS_count_53 : decode b_IS_count 53 = .ok (.invokevirtual 100, 3) := by decide +kernel
theorem d_IS_count_56 : decode b_IS_count 56 = .ok (.ireturn, 1) := by decide +kernel
theorem d_IS_count_57 : decode b_IS_count 57 = .ok (.aload_n 0, 1) := by decide +kernel
theorem d_IS_count_58 : decode b_IS_count 58 = .ok (.aload_n 0, 1) := by decide +kernel
theorem d_IS_count_59 : decode b_IS_count 59 = .ok (.getfield 26, 3) := by decide +kernel
theorem d_IS_count_62 : decode b_IS_count 62 = .ok (.invokevirtual 100, 3) := by decide +kernel
theorem d_IS_count_65 : decode b_IS_count 65 = .ok (.ireturn, 1) := by decide +kernel
theorem d_IS_count_66 : decode b_IS_count 66 = .ok (.aload_n 0, 1) := by decide +kernel
theorem d_IS_count_67 : decode b_IS_count 67 = .ok (.aload_n 0, 1) := by decide +kernel
theorem d_IS_count_68 : decode b_IS_count 68 = .ok (.getfield 22, 3) := by decide +kernel
theorem d_IS_count_71 : decode b_IS_count 71 = .ok (.invokevirtual 162, 3) := by decide +kernel
theorem d_IS_count_74 : decode b_IS_count 74 = .ok (.ireturn, 1) := by decide +kernel
theorem d_IS_count_75 : decode b_IS_count 75 = .ok (.aload_n 0, 1) := by decide +kernel
theorem d_IS_count_76 : decode b_IS_count 76 = .ok (.aload_n 0, 1) := by decide +kernel
theorem d_IS_count_77 : decode b_IS_count 77 = .ok (.getfield 26, 3) := by decide +kernel
theorem d_IS_count_80 : decode b_IS_count 80 = .ok (.invokevirtual 162, 3) := by decide +kernel
end
section
theorem d_IS_count_83 : decode b_IS_count 83 = .ok (.ireturn, 1) := by decide +kernel
theorem d_IS_count_84 : decode b_IS_count 84 = .ok (.aload_n 0, 1) := by decide +kernel
theorem d_IS_count_85 : decode b_IS_count 85 = .ok (.getfield 40, 3) := by decide +kernel
theorem d_IS_count_88 : decode b_IS_count 88 = .ok (.ireturn, 1) := by decide +kernel
theorem d_IS_count_89 : decode b_IS_count 89 = .ok (.iconst (-1), 1) := by decide +kernel
theorem d_IS_count_90 : decode b_IS_count 90 = .ok (.ireturn, 1) := by decide +kernel
theorem d_IS_entriesIn_0 : decode b_IS_entriesIn 0 = .ok (.aload_n 0, 1) := by decide +kernel
theorem d_IS_entriesIn_1 : decode b_IS_entriesIn 1 = .ok (.aload_n 1, 1) := by decide +kernel
theorem d_IS_entriesIn_2 : decode b_IS_entriesIn 2 = .ok (.invokevirtual 195, 3) := by decide +kernel
theorem d_IS_entriesIn_5 : decode b_IS_entriesIn 5 = .ok (.iconst 0, 1) := by decide +kernel
theorem d_IS_entriesIn_6 : decode b_IS_entriesIn 6 = .ok (.istore_n 2, 1) := by decide +kernel
theorem d_IS_entriesIn_7 : decode b_IS_entriesIn 7 = .ok (.iconst 0, 1) := by decide +kernel
theorem d_IS_entriesIn_8 : decode b_IS_entriesIn 8 = .ok (.istore_n 3, 1) := by decide +kernel
theorem d_IS_entriesIn_9 : decode b_IS_entriesIn 9 = .ok (.iload_n 3, 1) := by decide +kernel
theorem d_IS_entriesIn_10 : decode b_IS_entriesIn 10 = .ok (.aload_n 0, 1) := by decide +kernel
theorem d_IS_entriesIn_11 : decode b_IS_entriesIn 11 = .ok (.getfield 16, 3) := by decide +kernel
theorem d_IS_entriesIn_14 : decode b_IS_entriesIn 14 = .ok (.invokevirtual 161, 3) := by decide +kernel
theorem d_IS_entriesIn_17 : decode b_IS_entriesIn 17 = .ok (.if_icmp .ge 35, 3) := by decide +kernel
theorem d_IS_entriesIn_20 : decode b_IS_entriesIn 20 = .ok (.aload_n 0, 1) := by decide +kernel
theorem d_IS_entriesIn_21 : decode b_IS_entriesIn 21 = .ok (.getfield 36, 3) := by decide +kernel
theorem d_IS_entriesIn_24 : decode b_IS_entriesIn 24 = .ok (.iload_n 3, 1) := by decide +kernel
theorem d_IS_entriesIn_25 : decode b_IS_entriesIn 25 = .ok (.baload, 1) := by decide +kernel
theorem d_IS_entriesIn_26 : decode b_IS_entriesIn 26 = .ok (.ifCond .eq 20, 3) := by decide +kernel
theorem d_IS_entriesIn_29 : decode b_IS_entriesIn 29 = .ok (.iload_n 2, 1) := by decide +kernel
theorem d_IS_entriesIn_30 : decode b_IS_entriesIn 30 = .ok (.aload_n 0, 1) := by decide +kernel
theorem d_IS_entriesIn_31 : decode b_IS_entriesIn 31 = .ok (.getfield 16, 3) := by decide +kernel
theorem d_IS_entriesIn_34 : decode b_IS_entriesIn 34 = .ok (.iload_n 3, 1) := by decide +kernel
theorem d_IS_entriesIn_35 : decode b_IS_entriesIn 35 = .ok (.invokevirtual 60, 3) := by decide +kernel
theorem d_IS_entriesIn_38 : decode b_IS_entriesIn 38 = .ok (.checkcast 137, 3) := by decide +kernel
theorem d_IS_entriesIn_41 : decode b_IS_entriesIn 41 = .ok (.invokevirtual 136, 3) := by decide +kernel
theorem d_IS_entriesIn_44 : decode b_IS_entriesIn 44 = .ok (.iadd, 1) := by decide +kernel
theorem d_IS_entriesIn_45 : decode b_IS_entriesIn 45 = .ok (.istore_n 2, 1) := by decide +kernel
theorem d_IS_entriesIn_46 : decode b_IS_entriesIn 46 = .ok (.iinc 3 1, 3) := by decide +kernel
theorem d_IS_entriesIn_49 : decode b_IS_entriesIn 49 = .ok (.goto (-40), 3) := by decide +kernel
theorem d_IS_entriesIn_52 : decode b_IS_entriesIn 52 = .ok (.iload_n 2, 1) := by decide +kernel
theorem d_IS_entriesIn_53 : decode b_IS_entriesIn 53 = .ok (.ireturn, 1) := by decide +kernel
theorem d_MO_init_0 : decode b_MO_init 0 = .ok (.aload_n 0, 1) := by decide +kernel
theorem d_MO_init_1 : decode b_MO_init 1 = .ok (.invokespecial 1, 3) := by decide +kernel
theorem d_MO_init_4 : decode b_MO_init 4 = .ok (.aload_n 0, 1) := by decide +kernel
theorem d_MO_init_5 : decode b_MO_init 5 = .ok (.bipush 40, 2) := by decide +kernel
theorem d_MO_init_7 : decode b_MO_init 7 = .ok (.newarray .int, 2) := by decide +kernel
theorem d_MO_init_9 : decode b_MO_init 9 = .ok (.putfield 7, 3) := by decide +kernel
theorem d_MO_init_12 : decode b_MO_init 12 = .ok (.aload_n 0, 1) := by decide +kernel
theorem d_MO_init_13 : decode b_MO_init 13 = .ok (.sipush 5000, 3) := by decide +kernel
theorem d_MO_init_16 : decode b_MO_init 16 = .ok (.newarray .long, 2) := by decide +kernel
theorem d_MO_init_18 : decode b_MO_init 18 = .ok (.putfield 13, 3) := by decide +kernel
theorem d_MO_init_21 : decode b_MO_init 21 = .ok (.aload_n 0, 1) := by decide +kernel
theorem d_MO_init_22 : decode b_MO_init 22 = .ok (.iconst 1, 1) := by decide +kernel
theorem d_MO_init_23 : decode b_MO_init 23 = .ok (.putfield 17, 3) := by decide +kernel
theorem d_MO_init_26 : decode b_MO_init 26 = .ok (.aload_n 0, 1) := by decide +kernel
theorem d_MO_init_27 : decode b_MO_init 27 = .ok (.bipush 80, 2) := by decide +kernel
theorem d_MO_init_29 : decode b_MO_init 29 = .ok (.newarray .boolean, 2) := by decide +kernel
theorem d_MO_init_31 : decode b_MO_init 31 = .ok (.putfield 21, 3) := by decide +kernel
theorem d_MO_init_34 : decode b_MO_init 34 = .ok (.aload_n 0, 1) := by decide +kernel
theorem d_MO_init_35 : decode b_MO_init 35 = .ok (.bipush 12, 2) := by decide +kernel
theorem d_MO_init_37 : decode b_MO_init 37 = .ok (.newarray .int, 2) := by decide +kernel
theorem d_MO_init_39 : decode b_MO_init 39 = .ok (.dup, 1) := by decide +kernel
theorem d_MO_init_40 : decode b_MO_init 40 = .ok (.iconst 0, 1) := by decide +kernel
theorem d_MO_init_41 : decode b_MO_init 41 = .ok (.bipush 40, 2) := by decide +kernel
theorem d_MO_init_43 : decode b_MO_init 43 = .ok (.iastore, 1) := by decide +kernel
theorem d_MO_init_44 : decode b_MO_init 44 = .ok (.dup, 1) := by decide +kernel
theorem d_MO_init_45 : decode b_MO_init 45 = .ok (.iconst 1, 1) := by decide +kernel
theorem d_MO_init_46 : decode b_MO_init 46 = .ok (.bipush 40, 2) := by decide +kernel
theorem d_MO_init_48 : decode b_MO_init 48 = .ok (.iastore, 1) := by decide +kernel
theorem d_MO_init_49 : decode b_MO_init 49 = .ok (.dup, 1) := by decide +kernel
theorem d_MO_init_50 : decode b_MO_init 50 = .ok (.iconst 2, 1) := by decide +kernel
theorem d_MO_init_51 : decode b_MO_init 51 = .ok (.bipush 40, 2) := by decide +kernel
theorem d_MO_init_53 : decode b_MO_init 53 = .ok (.iastore, 1) := by decide +kernel
theorem d_MO_init_54 : decode b_MO_init 54 = .ok (.dup, 1) := by decide +kernel
theorem d_MO_init_55 : decode b_MO_init 55 = .ok (.iconst 3, 1) := by decide +kernel
theorem d_MO_init_56 : decode b_MO_init 56 = .ok (.bipush 40, 2) := by decide +kernel
theorem d_MO_init_58 : decode b_MO_init 58 = .ok (.iastore, 1) := by decide +kernel
theorem d_MO_init_59 : decode b_MO_init 59 = .ok (.dup, 1) := by decide +kernel
theorem d_MO_init_60 : decode b_MO_init 60 = .ok (.iconst 4, 1) := by decide +kernel
theorem d_MO_init_61 : decode b_MO_init 61 = .ok (.bipush 40, 2) := by decide +kernel
theorem d_MO_init_63 : decode b_MO_init 63 = .ok (.iastore, 1) := by decide +kernel
theorem d_MO_init_64 : decode b_MO_init 64 = .ok (.dup, 1) := by decide +kernel
theorem d_MO_init_65 : decode b_MO_init 65 = .ok (.iconst 5, 1) := by decide +kernel
theorem d_MO_init_66 : decode b_MO_init 66 = .ok (.bipush 40, 2) := by decide +kernel
theorem d_MO_init_68 : decode b_MO_init 68 = .ok (.iastore, 1) := by decide +kernel
theorem d_MO_init_69 : decode b_MO_init 69 = .ok (.dup, 1) := by decide +kernel
theorem d_MO_init_70 : decode b_MO_init 70 = .ok (.bipush 6, 2) := by decide +kernel
theorem d_MO_init_72 : decode b_MO_init 72 = .ok (.bipush 40, 2) := by decide +kernel
theorem d_MO_init_74 : decode b_MO_init 74 = .ok (.iastore, 1) := by decide +kernel
theorem d_MO_init_75 : decode b_MO_init 75 = .ok (.dup, 1) := by decide +kernel
theorem d_MO_init_76 : decode b_MO_init 76 = .ok (.bipush 7, 2) := by decide +kernel
theorem d_MO_init_78 : decode b_MO_init 78 = .ok (.bipush 40, 2) := by decide +kernel
theorem d_MO_init_80 : decode b_MO_init 80 = .ok (.iastore, 1) := by decide +kernel
theorem d_MO_init_81 : decode b_MO_init 81 = .ok (.dup, 1) := by decide +kernel
theorem d_MO_init_82 : decode b_MO_init 82 = .ok (.bipush 8, 2) := by decide +kernel
theorem d_MO_init_84 : decode b_MO_init 84 = .ok (.bipush 40, 2) := by decide +kernel
theorem d_MO_init_86 : decode b_MO_init 86 = .ok (.iastore, 1) := by decide +kernel
theorem d_MO_init_87 : decode b_MO_init 87 = .ok (.dup, 1) := by decide +kernel
theorem d_MO_init_88 : decode b_MO_init 88 = .ok (.bipush 9, 2) := by decide +kernel
theorem d_MO_init_90 : decode b_MO_init 90 = .ok (.bipush 40, 2) := by decide +kernel
theorem d_MO_init_92 : decode b_MO_init 92 = .ok (.iastore, 1) := by decide +kernel
theorem d_MO_init_93 : decode b_MO_init 93 = .ok (.dup, 1) := by decide +kernel
theorem d_MO_init_94 : decode b_MO_init 94 = .ok (.bipush 10, 2) := by decide +kernel
theorem d_MO_init_96 : decode b_MO_init 96 = .ok (.bipush 40, 2) := by decide +kernel
theorem d_MO_init_98 : decode b_MO_init 98 = .ok (.iastore, 1) := by decide +kernel
theorem d_MO_init_99 : decode b_MO_init 99 = .ok (.dup, 1) := by decide +kernel
theorem d_MO_init_100 : decode b_MO_init 100 = .ok (.bipush 11, 2) := by decide +kernel
theorem d_MO_init_102 : decode b_MO_init 102 = .ok (.bipush 40, 2) := by decide +kernel
theorem d_MO_init_104 : decode b_MO_init 104 = .ok (.iastore, 1) := by decide +kernel
theorem d_MO_init_105 : decode b_MO_init 105 = .ok (.putfield 25, 3) := by decide +kernel
theorem d_MO_init_108 : decode b_MO_init 108 = .ok (.aload_n 0, 1) := by decide +kernel
theorem d_MO_init_109 : decode b_MO_init 109 = .ok (.bipush 125, 2) := by decide +kernel
theorem d_MO_init_111 : decode b_MO_init 111 = .ok (.newarray .long, 2) := by decide +kernel
theorem d_MO_init_113 : decode b_MO_init 113 = .ok (.putfield 28, 3) := by decide +kernel
theorem d_MO_init_116 : decode b_MO_init 116 = .ok (.aload_n 0, 1) := by decide +kernel
theorem d_MO_init_117 : decode b_MO_init 117 = .ok (.bipush 40, 2) := by decide +kernel
theorem d_MO_init_119 : decode b_MO_init 119 = .ok (.newarray .boolean, 2) := by decide +kernel
theorem d_MO_init_121 : decode b_MO_init 121 = .ok (.putfield 31, 3) := by decide +kernel
theorem d_MO_init_124 : decode b_MO_init 124 = .ok (.iconst 0, 1) := by decide +kernel
theorem d_MO_init_125 : decode b_MO_init 125 = .ok (.istore_n 1, 1) := by decide +kernel
theorem d_MO_init_126 : decode b_MO_init 126 = .ok (.iload_n 1, 1) := by decide +kernel
theorem d_MO_init_127 : decode b_MO_init 127 = .ok (.bipush 125, 2) := by decide +kernel
theorem d_MO_init_129 : decode b_MO_init 129 = .ok (.if_icmp .ge 28, 3) := by decide +kernel
theorem d_MO_init_132 : decode b_MO_init 132 = .ok (.aload_n 0, 1) := by decide +kernel
theorem d_MO_init_133 : decode b_MO_init 133 = .ok (.getfield 13, 3) := by decide +kernel
theorem d_MO_init_136 : decode b_MO_init 136 = .ok (.iload_n 1, 1) := by decide +kernel
theorem d_MO_init_137 : decode b_MO_init 137 = .ok (.iload_n 1, 1) := by decide +kernel
theorem d_MO_init_138 : decode b_MO_init 138 = .ok (.ifCond .ne 9, 3) := by decide +kernel
theorem d_MO_init_141 : decode b_MO_init 141 = .ok (.ldc2_w 34, 3) := by decide +kernel
theorem d_MO_init_144 : decode b_MO_init 144 = .ok (.goto 6, 3) := by decide +kernel
theorem d_MO_init_147 : decode b_MO_init 147 = .ok (.ldc2_w 36, 3) := by decide +kernel
theorem d_MO_init_150 : decode b_MO_init 150 = .ok (.lastore, 1) := by decide +kernel
theorem d_MO_init_151 : decode b_MO_init 151 = .ok (.iinc 1 1, 3) := by decide +kernel
theorem d_MO_init_154 : decode b_MO_init 154 = .ok (.goto (-28), 3) := by decide +kernel
theorem d_MO_init_157 : decode b_MO_init 157 = .ok (.aload_n 0, 1) := by decide +kernel
theorem d_MO_init_158 : decode b_MO_init 158 = .ok (.getfield 21, 3) := by decide +kernel
theorem d_MO_init_161 : decode b_MO_init 161 = .ok (.iconst 0, 1) := by decide +kernel
theorem d_MO_init_162 : decode b_MO_init 162 = .ok (.iconst 1, 1) := by decide +kernel
theorem d_MO_init_163 : decode b_MO_init 163 = .ok (.bastore, 1) := by decide +kernel
theorem d_MO_init_164 : decode b_MO_init 164 = .ok (.aload_n 0, 1) := by decide +kernel
theorem d_MO_init_165 : decode b_MO_init 165 = .ok (.getfield 21, 3) := by decide +kernel
theorem d_MO_init_168 : decode b_MO_init 168 = .ok (.bipush 40, 2) := by decide +kernel
theorem d_MO_init_170 : decode b_MO_init 170 = .ok (.iconst 1, 1) := by decide +kernel
theorem d_MO_init_171 : decode b_MO_init 171 = .ok (.bastore, 1) := by decide +kernel
theorem d_MO_init_172 : decode b_MO_init 172 = .ok (.return_, 1) := by decide +kernel
theorem d_MO_build_0 : decode b_MO_build 0 = .ok (.aload_n 0, 1) := by decide +kernel
theorem d_MO_build_1 : decode b_MO_build 1 = .ok (.iconst 0, 1) := by decide +kernel
theorem d_MO_build_2 : decode b_MO_build 2 = .ok (.iload_n 1, 1) := by decide +kernel
theorem d_MO_build_3 : decode b_MO_build 3 = .ok (.invokevirtual 93, 3) := by decide +kernel
theorem d_MO_build_6 : decode b_MO_build 6 = .ok (.ifCond .eq 32, 3) := by decide +kernel
theorem d_MO_build_9 : decode b_MO_build 9 = .ok (.iload_n 2, 1) := by decide +kernel
theorem d_MO_build_10 : decode b_MO_build 10 = .ok (.ifCond .lt 28, 3) := by decide +kernel
theorem d_MO_build_13 : decode b_MO_build 13 = .ok (.iload_n 2, 1) := by decide +kernel
theorem d_MO_build_14 : decode b_MO_build 14 = .ok (.iconst 4, 1) := by decide +kernel
theorem d_MO_build_15 : decode b_MO_build 15 = .ok (.if_icmp .gt 23, 3) := by decide +kernel
theorem d_MO_build_18 : decode b_MO_build 18 = .ok (.iload_n 3, 1) := by decide +kernel
theorem d_MO_build_19 : decode b_MO_build 19 = .ok (.invokestatic 46, 3) := by decide +kernel
theorem d_MO_build_22 : decode b_MO_build 22 = .ok (.ifCond .eq 16, 3) := by decide +kernel
theorem d_MO_build_25 : decode b_MO_build 25 = .ok (.iload_n 2, 1) := by decide +kernel
theorem d_MO_build_26 : decode b_MO_build 26 = .ok (.iconst 2, 1) := by decide +kernel
theorem d_MO_build_27 : decode b_MO_build 27 = .ok (.if_icmp .le 13, 3) := by decide +kernel
theorem d_MO_build_30 : decode b_MO_build 30 = .ok (.iload 4, 2) := by decide +kernel
theorem d_MO_build_32 : decode b_MO_build 32 = .ok (.invokestatic 46, 3) := by decide +kernel
theorem d_MO_build_35 : decode b_MO_build 35 = .ok (.ifCond .ne 5, 3) := by decide +kernel
theorem d_MO_build_38 : decode b_MO_build 38 = .ok (.iconst (-1), 1) := by decide +kernel
theorem d_MO_build_39 : decode b_MO_build 39 = .ok (.ireturn, 1) := by decide +kernel
theorem d_MO_build_40 : decode b_MO_build 40 = .ok (.aload_n 0, 1) := by decide +kernel
theorem d_MO_build_41 : decode b_MO_build 41 = .ok (.iload_n 1, 1) := by decide +kernel
theorem d_MO_build_42 : decode b_MO_build 42 = .ok (.invokevirtual 96, 3) := by decide +kernel
theorem d_MO_build_45 : decode b_MO_build 45 = .ok (.aload_n 0, 1) := by decide +kernel
theorem d_MO_build_46 : decode b_MO_build 46 = .ok (.iload_n 2, 1) := by decide +kernel
theorem d_MO_build_47 : decode b_MO_build 47 = .ok (.iload_n 3, 1) := by decide +kernel
theorem d_MO_build_48 : decode b_MO_build 48 = .ok (.iload 4, 2) := by decide +kernel
theorem d_MO_build_50 : decode b_MO_build 50 = .ok (.invokevirtual 100, 3) := by decide +kernel
theorem d_MO_build_53 : decode b_MO_build 53 = .ok (.ifCond .eq 11, 3) := by decide +kernel
theorem d_MO_build_56 : decode b_MO_build 56 = .ok (.aload_n 0, 1) := by decide +kernel
theorem d_MO_build_57 : decode b_MO_build 57 = .ok (.iload_n 1, 1) := by decide +kernel
theorem d_MO_build_58 : decode b_MO_build 58 = .ok (.invokevirtual 104, 3) := by decide +kernel
theorem d_MO_build_61 : decode b_MO_build 61 = .ok (.goto 4, 3) := by decide +kernel
theorem d_MO_build_64 : decode b_MO_build 64 = .ok (.iconst (-1), 1) := by decide +kernel
theorem d_MO_build_65 : decode b_MO_build 65 = .ok (.ireturn, 1) := by decide +kernel
theorem d_MO_holding_0 : decode b_MO_holding 0 = .ok (.aload_n 0, 1) := by decide +kernel
theorem d_MO_holding_1 : decode b_MO_holding 1 = .ok (.iload_n 2, 1) := by decide +kernel
theorem d_MO_holding_2 : decode b_MO_holding 2 = .ok (.invokevirtual 50, 3) := by decide +kernel
theorem d_MO_holding_5 : decode b_MO_holding 5 = .ok (.ifCond .eq 21, 3) := by decide +kernel
theorem d_MO_holding_8 : decode b_MO_holding 8 = .ok (.aload_n 0, 1) := by decide +kernel
theorem d_MO_holding_9 : decode b_MO_holding 9 = .ok (.getfield 21, 3) := by decide +kernel
theorem d_MO_holding_12 : decode b_MO_holding 12 = .ok (.bipush 40, 2) := by decide +kernel
theorem d_MO_holding_14 : decode b_MO_holding 14 = .ok (.iload_n 1, 1) := by decide +kernel
theorem d_MO_holding_15 : decode b_MO_holding 15 = .ok (.imul, 1) := by decide +kernel
theorem d_MO_holding_16 : decode b_MO_holding 16 = .ok (.iload_n 2, 1) := by decide +kernel
theorem d_MO_holding_17 : decode b_MO_holding 17 = .ok (.iadd, 1) := by decide +kernel
theorem d_MO_holding_18 : decode b_MO_holding 18 = .ok (.baload, 1) := by decide +kernel
theorem d_MO_holding_19 : decode b_MO_holding 19 = .ok (.ifCond .eq 7, 3) := by decide +kernel
theorem d_MO_holding_22 : decode b_MO_holding 22 = .ok (.iconst 1, 1) := by decide +kernel
theorem d_MO_holding_23 : decode b_MO_holding 23 = .ok (.goto 4, 3) := by decide +kernel
theorem d_MO_holding_26 : decode b_MO_holding 26 = .ok (.iconst 0, 1) := by decide +kernel
theorem d_MO_holding_27 : decode b_MO_holding 27 = .ok (.ireturn, 1) := by decide +kernel
theorem d_MO_is_0 : decode b_MO_is 0 = .ok (.iload_n 1, 1) := by decide +kernel
theorem d_MO_is_1 : decode b_MO_is 1 = .ok (.ifCond .lt 15, 3) := by decide +kernel
theorem d_MO_is_4 : decode b_MO_is 4 = .ok (.iload_n 1, 1) := by decide +kernel
theorem d_MO_is_5 : decode b_MO_is 5 = .ok (.aload_n 0, 1) := by decide +kernel
theorem d_MO_is_6 : decode b_MO_is 6 = .ok (.getfield 17, 3) := by decide +kernel
theorem d_MO_is_9 : decode b_MO_is 9 = .ok (.if_icmp .ge 7, 3) := by decide +kernel
theorem d_MO_is_12 : decode b_MO_is 12 = .ok (.iconst 1, 1) := by decide +kernel
theorem d_MO_is_13 : decode b_MO_is 13 = .ok (.goto 4, 3) := by decide +kernel
theorem d_MO_is_16 : decode b_MO_is 16 = .ok (.iconst 0, 1) := by decide +kernel
theorem d_MO_is_17 : decode b_MO_is 17 = .ok (.ireturn, 1) := by decide +kernel
theorem d_MO_legal_0 : decode b_MO_legal 0 = .ok (.iload_n 0, 1) := by decide +kernel
theorem d_MO_legal_1 : decode b_MO_legal 1 = .ok (.ifCond .le 34, 3) := by decide +kernel
theorem d_MO_legal_4 : decode b_MO_legal 4 = .ok (.iload_n 0, 1) := by decide +kernel
theorem d_MO_legal_5 : decode b_MO_legal 5 = .ok (.bipush 125, 2) := by decide +kernel
theorem d_MO_legal_7 : decode b_MO_legal 7 = .ok (.if_icmp .ge 28, 3) := by decide +kernel
theorem d_MO_legal_10 : decode b_MO_legal 10 = .ok (.iload_n 0, 1) := by decide +kernel
theorem d_MO_legal_11 : decode b_MO_legal 11 = .ok (.bipush 25, 2) := by decide +kernel
theorem d_MO_legal_13 : decode b_MO_legal 13 = .ok (.idiv, 1) := by decide +kernel
theorem d_MO_legal_14 : decode b_MO_legal 14 = .ok (.ifCond .le 21, 3) := by decide +kernel
theorem d_MO_legal_17 : decode b_MO_legal 17 = .ok (.iload_n 0, 1) := by decide +kernel
theorem d_MO_legal_18 : decode b_MO_legal 18 = .ok (.iconst 5, 1) := by decide +kernel
theorem d_MO_legal_19 : decode b_MO_legal 19 = .ok (.idiv, 1) := by decide +kernel
theorem d_MO_legal_20 : decode b_MO_legal 20 = .ok (.iconst 5, 1) := by decide +kernel
theorem d_MO_legal_21 : decode b_MO_legal 21 = .ok (.irem, 1) := by decide +kernel
theorem d_MO_legal_22 : decode b_MO_legal 22 = .ok (.ifCond .gt 9, 3) := by decide +kernel
theorem d_MO_legal_25 : decode b_MO_legal 25 = .ok (.iload_n 0, 1) := by decide +kernel
theorem d_MO_legal_26 : decode b_MO_legal 26 = .ok (.iconst 5, 1) := by decide +kernel
theorem d_MO_legal_27 : decode b_MO_legal 27 = .ok (.irem, 1) := by decide +kernel
theorem d_MO_legal_28 : decode b_MO_legal 28 = .ok (.ifCond .ne 7, 3) := by decide +kernel
theorem d_MO_legal_31 : decode b_MO_legal 31 = .ok (.iconst 1, 1) := by decide +kernel
theorem d_MO_legal_32 : decode b_MO_legal 32 = .ok (.goto 4, 3) := by decide +kernel
theorem d_MO_legal_35 : decode b_MO_legal 35 = .ok (.iconst 0, 1) := by decide +kernel
theorem d_MO_legal_36 : decode b_MO_legal 36 = .ok (.ireturn, 1) := by decide +kernel
theorem d_MO_load_0 : decode b_MO_load 0 = .ok (.iconst 0, 1) := by decide +kernel
theorem d_MO_load_1 : decode b_MO_load 1 = .ok (.istore_n 2, 1) := by decide +kernel
theorem d_MO_load_2 : decode b_MO_load 2 = .ok (.iload_n 2, 1) := by decide +kernel
theorem d_MO_load_3 : decode b_MO_load 3 = .ok (.bipush 125, 2) := by decide +kernel
theorem d_MO_load_5 : decode b_MO_load 5 = .ok (.if_icmp .ge 26, 3) := by decide +kernel
theorem d_MO_load_8 : decode b_MO_load 8 = .ok (.aload_n 0, 1) := by decide +kernel
theorem d_MO_load_9 : decode b_MO_load 9 = .ok (.getfield 28, 3) := by decide +kernel
theorem d_MO_load_12 : decode b_MO_load 12 = .ok (.iload_n 2, 1) := by decide +kernel
theorem d_MO_load_13 : decode b_MO_load 13 = .ok (.aload_n 0, 1) := by decide +kernel
theorem d_MO_load_14 : decode b_MO_load 14 = .ok (.getfield 13, 3) := by decide +kernel
theorem d_MO_load_17 : decode b_MO_load 17 = .ok (.bipush 125, 2) := by decide +kernel
theorem d_MO_load_19 : decode b_MO_load 19 = .ok (.iload_n 1, 1) := by decide +kernel
theorem d_MO_load_20 : decode b_MO_load 20 = .ok (.imul, 1) := by decide +kernel
theorem d_MO_load_21 : decode b_MO_load 21 = .ok (.iload_n 2, 1) := by decide +kernel
theorem d_MO_load_22 : decode b_MO_load 22 = .ok (.iadd, 1) := by decide +kernel
theorem d_MO_load_23 : decode b_MO_load 23 = .ok (.laload, 1) := by decide +kernel
theorem d_MO_load_24 : decode b_MO_load 24 = .ok (.lastore, 1) := by decide +kernel
theorem d_MO_load_25 : decode b_MO_load 25 = .ok (.iinc 2 1, 3) := by decide +kernel
theorem d_MO_load_28 : decode b_MO_load 28 = .ok (.goto (-26), 3) := by decide +kernel
theorem d_MO_load_31 : decode b_MO_load 31 = .ok (.return_, 1) := by decide +kernel
theorem d_MO_change_0 : decode b_MO_change 0 = .ok (.iload_n 1, 1) := by decide +kernel
theorem d_MO_change_1 : decode b_MO_change 1 = .ok (.tableswitch 139 0 3 #[31, 68, 105, 132], 31) := by decide +kernel
theorem d_MO_change_32 : decode b_MO_change 32 = .ok (.aload_n 0, 1) := by decide +kernel
theorem d_MO_change_33 : decode b_MO_change 33 = .ok (.iload_n 2, 1) := by decide +kernel
theorem d_MO_change_34 : decode b_MO_change 34 = .ok (.invokevirtual 71, 3) := by decide +kernel
theorem d_MO_change_37 : decode b_MO_change 37 = .ok (.ifCond .ne 30, 3) := by decide +kernel
theorem d_MO_change_40 : decode b_MO_change 40 = .ok (.aload_n 0, 1) := by decide +kernel
theorem d_MO_change_41 : decode b_MO_change 41 = .ok (.getfield 28, 3) := by decide +kernel
theorem d_MO_change_44 : decode b_MO_change 44 = .ok (.iload_n 2, 1) := by decide +kernel
theorem d_MO_change_45 : decode b_MO_change 45 = .ok (.laload, 1) := by decide +kernel
theorem d_MO_change_46 : decode b_MO_change 46 = .ok (.ldc2_w 34, 3) := by decide +kernel
theorem d_MO_change_49 : decode b_MO_change 49 = .ok (.lcmp, 1) := by decide +kernel
theorem d_MO_change_50 : decode b_MO_change 50 = .ok (.ifCond .eq 17, 3) := by decide +kernel
theorem d_MO_change_53 : decode b_MO_change 53 = .ok (.aload_n 0, 1) := by decide +kernel
theorem d_MO_change_54 : decode b_MO_change 54 = .ok (.iload_n 2, 1) := by decide +kernel
theorem d_MO_change_55 : decode b_MO_change 55 = .ok (.iload_n 3, 1) := by decide +kernel
theorem d_MO_change_56 : decode b_MO_change 56 = .ok (.i2l, 1) := by decide +kernel
theorem d_MO_change_57 : decode b_MO_change 57 = .ok (.invokevirtual 74, 3) := by decide +kernel
theorem d_MO_change_60 : decode b_MO_change 60 = .ok (.ifCond .eq 7, 3) := by decide +kernel
theorem d_MO_change_63 : decode b_MO_change 63 = .ok (.iconst 1, 1) := by decide +kernel
theorem d_MO_change_64 : decode b_MO_change 64 = .ok (.goto 4, 3) := by decide +kernel
theorem d_MO_change_67 : decode b_MO_change 67 = .ok (.iconst 0, 1) := by decide +kernel
theorem d_MO_change_68 : decode b_MO_change 68 = .ok (.ireturn, 1) := by decide +kernel
theorem d_MO_change_69 : decode b_MO_change 69 = .ok (.aload_n 0, 1) := by decide +kernel
theorem d_MO_change_70 : decode b_MO_change 70 = .ok (.iload_n 2, 1) := by decide +kernel
theorem d_MO_change_71 : decode b_MO_change 71 = .ok (.invokevirtual 71, 3) := by decide +kernel
theorem d_MO_change_74 : decode b_MO_change 74 = .ok (.ifCond .ne 30, 3) := by decide +kernel
theorem d_MO_change_77 : decode b_MO_change 77 = .ok (.aload_n 0, 1) := by decide +kernel
theorem d_MO_change_78 : decode b_MO_change 78 = .ok (.getfield 28, 3) := by decide +kernel
theorem d_MO_change_81 : decode b_MO_change 81 = .ok (.iload_n 2, 1) := by decide +kernel
theorem d_MO_change_82 : decode b_MO_change 82 = .ok (.laload, 1) := by decide +kernel
theorem d_MO_change_83 : decode b_MO_change 83 = .ok (.invokestatic 53, 3) := by decide +kernel
theorem d_MO_change_86 : decode b_MO_change 86 = .ok (.ifCond .ne 18, 3) := by decide +kernel
theorem d_MO_change_89 : decode b_MO_change 89 = .ok (.aload_n 0, 1) := by decide +kernel
theorem d_MO_change_90 : decode b_MO_change 90 = .ok (.iload_n 2, 1) := by decide +kernel
theorem d_MO_change_91 : decode b_MO_change 91 = .ok (.ldc2_w 34, 3) := by decide +kernel
theorem d_MO_change_94 : decode b_MO_change 94 = .ok (.invokevirtual 74, 3) := by decide +kernel
theorem d_MO_change_97 : decode b_MO_change 97 = .ok (.ifCond .eq 7, 3) := by decide +kernel
theorem d_MO_change_100 : decode b_MO_change 100 = .ok (.iconst 1, 1) := by decide +kernel
theorem d_MO_change_101 : decode b_MO_change 101 = .ok (.goto 4, 3) := by decide +kernel
theorem d_MO_change_104 : decode b_MO_change 104 = .ok (.iconst 0, 1) := by decide +kernel
theorem d_MO_change_105 : decode b_MO_change 105 = .ok (.ireturn, 1) := by decide +kernel
theorem d_MO_change_106 : decode b_MO_change 106 = .ok (.aload_n 0, 1) := by decide +kernel
theorem d_MO_change_107 : decode b_MO_change 107 = .ok (.getfield 28, 3) := by decide +kernel
theorem d_MO_change_110 : decode b_MO_change 110 = .ok (.iload_n 2, 1) := by decide +kernel
theorem d_MO_change_111 : decode b_MO_change 111 = .ok (.laload, 1) := by decide +kernel
theorem d_MO_change_112 : decode b_MO_change 112 = .ok (.ldc2_w 36, 3) := by decide +kernel
theorem d_MO_change_115 : decode b_MO_change 115 = .ok (.lcmp, 1) := by decide +kernel
theorem d_MO_change_116 : decode b_MO_change 116 = .ok (.ifCond .eq 15, 3) := by decide +kernel
theorem d_MO_change_119 : decode b_MO_change 119 = .ok (.aload_n 0, 1) := by decide +kernel
theorem d_MO_change_120 : decode b_MO_change 120 = .ok (.iload_n 2, 1) := by decide +kernel
theorem d_MO_change_121 : decode b_MO_change 121 = .ok (.invokevirtual 78, 3) := by decide +kernel
theorem d_MO_change_124 : decode b_MO_change 124 = .ok (.ifCond .eq 7, 3) := by decide +kernel
theorem d_MO_change_127 : decode b_MO_change 127 = .ok (.iconst 1, 1) := by decide +kernel
theorem d_MO_change_128 : decode b_MO_change 128 = .ok (.goto 4, 3) := by decide +kernel
theorem d_MO_change_131 : decode b_MO_change 131 = .ok (.iconst 0, 1) := by decide +kernel
theorem d_MO_change_132 : decode b_MO_change 132 = .ok (.ireturn, 1) := by decide +kernel
theorem d_MO_change_133 : decode b_MO_change 133 = .ok (.aload_n 0, 1) := by decide +kernel
theorem d_MO_change_134 : decode b_MO_change 134 = .ok (.iload_n 2, 1) := by decide +kernel
theorem d_MO_change_135 : decode b_MO_change 135 = .ok (.iload_n 3, 1) := by decide +kernel
theorem d_MO_change_136 : decode b_MO_change 136 = .ok (.invokevirtual 81, 3) := by decide +kernel
theorem d_MO_change_139 : decode b_MO_change 139 = .ok (.ireturn, 1) := by decide +kernel
theorem d_MO_change_140 : decode b_MO_change 140 = .ok (.aload_n 0, 1) := by decide +kernel
theorem d_MO_change_141 : decode b_MO_change 141 = .ok (.iload_n 2, 1) := by decide +kernel
theorem d_MO_change_142 : decode b_MO_change 142 = .ok (.iload_n 3, 1) := by decide +kernel
theorem d_MO_change_143 : decode b_MO_change 143 = .ok (.invokevirtual 81, 3) := by decide +kernel
theorem d_MO_change_146 : decode b_MO_change 146 = .ok (.ifCond .eq 15, 3) := by decide +kernel
theorem d_MO_change_149 : decode b_MO_change 149 = .ok (.aload_n 0, 1) := by decide +kernel
theorem d_MO_change_150 : decode b_MO_change 150 = .ok (.iload_n 2, 1) := by decide +kernel
theorem d_MO_change_151 : decode b_MO_change 151 = .ok (.invokevirtual 78, 3) := by decide +kernel
theorem d_MO_change_154 : decode b_MO_change 154 = .ok (.ifCond .eq 7, 3) := by decide +kernel
theorem d_MO_change_157 : decode b_MO_change 157 = .ok (.iconst 1, 1) := by decide +kernel
theorem d_MO_change_158 : decode b_MO_change 158 = .ok (.goto 4, 3) := by decide +kernel
theorem d_MO_change_161 : decode b_MO_change 161 = .ok (.iconst 0, 1) := by decide +kernel
theorem d_MO_change_162 : decode b_MO_change 162 = .ok (.ireturn, 1) := by decide +kernel
theorem d_MO_underFile_0 : decode b_MO_underFile 0 = .ok (.iconst 1, 1) := by decide +kernel
theorem d_MO_underFile_1 : decode b_MO_underFile 1 = .ok (.istore_n 2, 1) := by decide +kernel
theorem d_MO_underFile_2 : decode b_MO_underFile 2 = .ok (.iload_n 2, 1) := by decide +kernel
theorem d_MO_underFile_3 : decode b_MO_underFile 3 = .ok (.iload_n 1, 1) := by decide +kernel
theorem d_MO_underFile_4 : decode b_MO_underFile 4 = .ok (.invokestatic 38, 3) := by decide +kernel
theorem d_MO_underFile_7 : decode b_MO_underFile 7 = .ok (.if_icmp .ge 27, 3) := by decide +kernel
theorem d_MO_underFile_10 : decode b_MO_underFile 10 = .ok (.aload_n 0, 1) := by decide +kernel
theorem d_MO_underFile_11 : decode b_MO_underFile 11 = .ok (.getfield 28, 3) := by decide +kernel
theorem d_MO_underFile_14 : decode b_MO_underFile 14 = .ok (.iload_n 1, 1) := by decide +kernel
theorem d_MO_underFile_15 : decode b_MO_underFile 15 = .ok (.iload_n 2, 1) := by decide +kernel
theorem d_MO_underFile_16 : decode b_MO_underFile 16 = .ok (.invokestatic 42, 3) := by decide +kernel
theorem d_MO_underFile_19 : decode b_MO_underFile 19 = .ok (.laload, 1) := by decide +kernel
theorem d_MO_underFile_20 : decode b_MO_underFile 20 = .ok (.invokestatic 53, 3) := by decide +kernel
theorem d_MO_underFile_23 : decode b_MO_underFile 23 = .ok (.ifCond .eq 5, 3) := by decide +kernel
theorem d_MO_underFile_26 : decode b_MO_underFile 26 = .ok (.iconst 1, 1) := by decide +kernel
theorem d_MO_underFile_27 : decode b_MO_underFile 27 = .ok (.ireturn, 1) := by decide +kernel
theorem d_MO_underFile_28 : decode b_MO_underFile 28 = .ok (.iinc 2 1, 3) := by decide +kernel
theorem d_MO_underFile_31 : decode b_MO_underFile 31 = .ok (.goto (-29), 3) := by decide +kernel
theorem d_MO_underFile_34 : decode b_MO_underFile 34 = .ok (.iconst 0, 1) := by decide +kernel
theorem d_MO_underFile_35 : decode b_MO_underFile 35 = .ok (.ireturn, 1) := by decide +kernel
theorem d_MO_depth_0 : decode b_MO_depth 0 = .ok (.iload_n 0, 1) := by decide +kernel
theorem d_MO_depth_1 : decode b_MO_depth 1 = .ok (.ifCond .ne 7, 3) := by decide +kernel
theorem d_MO_depth_4 : decode b_MO_depth 4 = .ok (.iconst 0, 1) := by decide +kernel
theorem d_MO_depth_5 : decode b_MO_depth 5 = .ok (.goto 25, 3) := by decide +kernel
theorem d_MO_depth_8 : decode b_MO_depth 8 = .ok (.iload_n 0, 1) := by decide +kernel
theorem d_MO_depth_9 : decode b_MO_depth 9 = .ok (.bipush 25, 2) := by decide +kernel
theorem d_MO_depth_11 : decode b_MO_depth 11 = .ok (.irem, 1) := by decide +kernel
theorem d_MO_depth_12 : decode b_MO_depth 12 = .ok (.ifCond .ne 7, 3) := by decide +kernel
theorem d_MO_depth_15 : decode b_MO_depth 15 = .ok (.iconst 1, 1) := by decide +kernel
theorem d_MO_depth_16 : decode b_MO_depth 16 = .ok (.goto 14, 3) := by decide +kernel
theorem d_MO_depth_19 : decode b_MO_depth 19 = .ok (.iload_n 0, 1) := by decide +kernel
theorem d_MO_depth_20 : decode b_MO_depth 20 = .ok (.iconst 5, 1) := by decide +kernel
theorem d_MO_depth_21 : decode b_MO_depth 21 = .ok (.irem, 1) := by decide +kernel
theorem d_MO_depth_22 : decode b_MO_depth 22 = .ok (.ifCond .ne 7, 3) := by decide +kernel
theorem d_MO_depth_25 : decode b_MO_depth 25 = .ok (.iconst 2, 1) := by decide +kernel
theorem d_MO_depth_26 : decode b_MO_depth 26 = .ok (.goto 4, 3) := by decide +kernel
theorem d_MO_depth_29 : decode b_MO_depth 29 = .ok (.iconst 3, 1) := by decide +kernel
theorem d_MO_depth_30 : decode b_MO_depth 30 = .ok (.ireturn, 1) := by decide +kernel
theorem d_MO_head_0 : decode b_MO_head 0 = .ok (.iload_n 1, 1) := by decide +kernel
theorem d_MO_head_1 : decode b_MO_head 1 = .ok (.ifCond .ne 7, 3) := by decide +kernel
theorem d_MO_head_4 : decode b_MO_head 4 = .ok (.iconst 0, 1) := by decide +kernel
theorem d_MO_head_5 : decode b_MO_head 5 = .ok (.goto 32, 3) := by decide +kernel
theorem d_MO_head_8 : decode b_MO_head 8 = .ok (.iload_n 1, 1) := by decide +kernel
theorem d_MO_head_9 : decode b_MO_head 9 = .ok (.iconst 1, 1) := by decide +kernel
theorem d_MO_head_10 : decode b_MO_head 10 = .ok (.if_icmp .ne 13, 3) := by decide +kernel
theorem d_MO_head_13 : decode b_MO_head 13 = .ok (.iload_n 0, 1) := by decide +kernel
theorem d_MO_head_14 : decode b_MO_head 14 = .ok (.bipush 25, 2) := by decide +kernel
theorem d_MO_head_16 : decode b_MO_head 16 = .ok (.idiv, 1) := by decide +kernel
theorem d_MO_head_17 : decode b_MO_head 17 = .ok (.bipush 25, 2) := by decide +kernel
theorem d_MO_head_19 : decode b_MO_head 19 = .ok (.imul, 1) := by decide +kernel
theorem d_MO_head_20 : decode b_MO_head 20 = .ok (.goto 17, 3) := by decide +kernel
theorem d_MO_head_23 : decode b_MO_head 23 = .ok (.iload_n 1, 1) := by decide +kernel
theorem d_MO_head_24 : decode b_MO_head 24 = .ok (.iconst 2, 1) := by decide +kernel
theorem d_MO_head_25 : decode b_MO_head 25 = .ok (.if_icmp .ne 11, 3) := by decide +kernel
theorem d_MO_head_28 : decode b_MO_head 28 = .ok (.iload_n 0, 1) := by decide +kernel
theorem d_MO_head_29 : decode b_MO_head 29 = .ok (.iconst 5, 1) := by decide +kernel
theorem d_MO_head_30 : decode b_MO_head 30 = .ok (.idiv, 1) := by decide +kernel
theorem d_MO_head_31 : decode b_MO_head 31 = .ok (.iconst 5, 1) := by decide +kernel
theorem d_MO_head_32 : decode b_MO_head 32 = .ok (.imul, 1) := by decide +kernel
theorem d_MO_head_33 : decode b_MO_head 33 = .ok (.goto 4, 3) := by decide +kernel
theorem d_MO_head_36 : decode b_MO_head 36 = .ok (.iload_n 0, 1) := by decide +kernel
theorem d_MO_head_37 : decode b_MO_head 37 = .ok (.ireturn, 1) := by decide +kernel
theorem d_MO_file_0 : decode b_MO_file 0 = .ok (.lload_n 0, 1) := by decide +kernel
theorem d_MO_file_1 : decode b_MO_file 1 = .ok (.ldc2_w 36, 3) := by decide +kernel
theorem d_MO_file_4 : decode b_MO_file 4 = .ok (.lcmp, 1) := by decide +kernel
theorem d_MO_file_5 : decode b_MO_file 5 = .ok (.ifCond .eq 15, 3) := by decide +kernel
theorem d_MO_file_8 : decode b_MO_file 8 = .ok (.lload_n 0, 1) := by decide +kernel
theorem d_MO_file_9 : decode b_MO_file 9 = .ok (.ldc2_w 34, 3) := by decide +kernel
theorem d_MO_file_12 : decode b_MO_file 12 = .ok (.lcmp, 1) := by decide +kernel
theorem d_MO_file_13 : decode b_MO_file 13 = .ok (.ifCond .eq 7, 3) := by decide +kernel
theorem d_MO_file_16 : decode b_MO_file 16 = .ok (.iconst 1, 1) := by decide +kernel
theorem d_MO_file_17 : decode b_MO_file 17 = .ok (.goto 4, 3) := by decide +kernel
theorem d_MO_file_20 : decode b_MO_file 20 = .ok (.iconst 0, 1) := by decide +kernel
theorem d_MO_file_21 : decode b_MO_file 21 = .ok (.ireturn, 1) := by decide +kernel
theorem d_MO_raise_0 : decode b_MO_raise 0 = .ok (.iconst 1, 1) := by decide +kernel
theorem d_MO_raise_1 : decode b_MO_raise 1 = .ok (.istore 4, 2) := by decide +kernel
theorem d_MO_raise_3 : decode b_MO_raise 3 = .ok (.iload 4, 2) := by decide +kernel
theorem d_MO_raise_5 : decode b_MO_raise 5 = .ok (.iload_n 1, 1) := by decide +kernel
theorem d_MO_raise_6 : decode b_MO_raise 6 = .ok (.invokestatic 38, 3) := by decide +kernel
theorem d_MO_raise_9 : decode b_MO_raise 9 = .ok (.if_icmp .ge 23, 3) := by decide +kernel
theorem d_MO_raise_12 : decode b_MO_raise 12 = .ok (.aload_n 0, 1) := by decide +kernel
theorem d_MO_raise_13 : decode b_MO_raise 13 = .ok (.getfield 28, 3) := by decide +kernel
theorem d_MO_raise_16 : decode b_MO_raise 16 = .ok (.iload_n 1, 1) := by decide +kernel
theorem d_MO_raise_17 : decode b_MO_raise 17 = .ok (.iload 4, 2) := by decide +kernel
theorem d_MO_raise_19 : decode b_MO_raise 19 = .ok (.invokestatic 42, 3) := by decide +kernel
theorem d_MO_raise_22 : decode b_MO_raise 22 = .ok (.ldc2_w 34, 3) := by decide +kernel
theorem d_MO_raise_25 : decode b_MO_raise 25 = .ok (.lastore, 1) := by decide +kernel
theorem d_MO_raise_26 : decode b_MO_raise 26 = .ok (.iinc 4 1, 3) := by decide +kernel
theorem d_MO_raise_29 : decode b_MO_raise 29 = .ok (.goto (-26), 3) := by decide +kernel
theorem d_MO_raise_32 : decode b_MO_raise 32 = .ok (.aload_n 0, 1) := by decide +kernel
theorem d_MO_raise_33 : decode b_MO_raise 33 = .ok (.getfield 28, 3) := by decide +kernel
theorem d_MO_raise_36 : decode b_MO_raise 36 = .ok (.iload_n 1, 1) := by decide +kernel
theorem d_MO_raise_37 : decode b_MO_raise 37 = .ok (.lload_n 2, 1) := by decide +kernel
theorem d_MO_raise_38 : decode b_MO_raise 38 = .ok (.lastore, 1) := by decide +kernel
theorem d_MO_raise_39 : decode b_MO_raise 39 = .ok (.iconst 1, 1) := by decide +kernel
theorem d_MO_raise_40 : decode b_MO_raise 40 = .ok (.ireturn, 1) := by decide +kernel
theorem d_MO_wipe_0 : decode b_MO_wipe 0 = .ok (.iconst 1, 1) := by decide +kernel
theorem d_MO_wipe_1 : decode b_MO_wipe 1 = .ok (.istore_n 2, 1) := by decide +kernel
theorem d_MO_wipe_2 : decode b_MO_wipe 2 = .ok (.iload_n 2, 1) := by decide +kernel
theorem d_MO_wipe_3 : decode b_MO_wipe 3 = .ok (.bipush 125, 2) := by decide +kernel
theorem d_MO_wipe_5 : decode b_MO_wipe 5 = .ok (.if_icmp .ge 31, 3) := by decide +kernel
theorem d_MO_wipe_8 : decode b_MO_wipe 8 = .ok (.iload_n 2, 1) := by decide +kernel
theorem d_MO_wipe_9 : decode b_MO_wipe 9 = .ok (.iload_n 1, 1) := by decide +kernel
theorem d_MO_wipe_10 : decode b_MO_wipe 10 = .ok (.if_icmp .eq 11, 3) := by decide +kernel
theorem d_MO_wipe_13 : decode b_MO_wipe 13 = .ok (.iload_n 2, 1) := by decide +kernel
theorem d_MO_wipe_14 : decode b_MO_wipe 14 = .ok (.iload_n 1, 1) := by decide +kernel
theorem d_MO_wipe_15 : decode b_MO_wipe 15 = .ok (.invokestatic 57, 3) := by decide +kernel
theorem d_MO_wipe_18 : decode b_MO_wipe 18 = .ok (.ifCond .eq 12, 3) := by decide +kernel
theorem d_MO_wipe_21 : decode b_MO_wipe 21 = .ok (.aload_n 0, 1) := by decide +kernel
theorem d_MO_wipe_22 : decode b_MO_wipe 22 = .ok (.getfield 28, 3) := by decide +kernel
theorem d_MO_wipe_25 : decode b_MO_wipe 25 = .ok (.iload_n 2, 1) := by decide +kernel
theorem d_MO_wipe_26 : decode b_MO_wipe 26 = .ok (.ldc2_w 36, 3) := by decide +kernel
theorem d_MO_wipe_29 : decode b_MO_wipe 29 = .ok (.lastore, 1) := by decide +kernel
theorem d_MO_wipe_30 : decode b_MO_wipe 30 = .ok (.iinc 2 1, 3) := by decide +kernel
theorem d_MO_wipe_33 : decode b_MO_wipe 33 = .ok (.goto (-31), 3) := by decide +kernel
theorem d_MO_wipe_36 : decode b_MO_wipe 36 = .ok (.iconst 1, 1) := by decide +kernel
theorem d_MO_wipe_37 : decode b_MO_wipe 37 = .ok (.ireturn, 1) := by decide +kernel
theorem d_MO_below_0 : decode b_MO_below 0 = .ok (.iload_n 0, 1) := by decide +kernel
theorem d_MO_below_1 : decode b_MO_below 1 = .ok (.invokestatic 46, 3) := by decide +kernel
theorem d_MO_below_4 : decode b_MO_below 4 = .ok (.ifCond .eq 30, 3) := by decide +kernel
theorem d_MO_below_7 : decode b_MO_below 7 = .ok (.iload_n 0, 1) := by decide +kernel
theorem d_MO_below_8 : decode b_MO_below 8 = .ok (.invokestatic 38, 3) := by decide +kernel
theorem d_MO_below_11 : decode b_MO_below 11 = .ok (.iload_n 1, 1) := by decide +kernel
theorem d_MO_below_12 : decode b_MO_below 12 = .ok (.invokestatic 38, 3) := by decide +kernel
theorem d_MO_below_15 : decode b_MO_below 15 = .ok (.if_icmp .le 19, 3) := by decide +kernel
theorem d_MO_below_18 : decode b_MO_below 18 = .ok (.iload_n 0, 1) := by decide +kernel
theorem d_MO_below_19 : decode b_MO_below 19 = .ok (.iload_n 1, 1) := by decide +kernel
theorem d_MO_below_20 : decode b_MO_below 20 = .ok (.invokestatic 38, 3) := by decide +kernel
theorem d_MO_below_23 : decode b_MO_below 23 = .ok (.invokestatic 42, 3) := by decide +kernel
end
section
theorem d_MO_below_26 : decode b_MO_below 26 = .ok (.iload_n 1, 1) := by decide +kernel
theorem d_MO_below_27 : decode b_MO_below 27 = .ok (.if_icmp .ne 7, 3) := by decide +kernel
theorem d_MO_below_30 : decode b_MO_below 30 = .ok (.iconst 1, 1) := by decide +kernel
theorem d_MO_below_31 : decode b_MO_below 31 = .ok (.goto 4, 3) := by decide +kernel
theorem d_MO_below_34 : decode b_MO_below 34 = .ok (.iconst 0, 1) := by decide +kernel
theorem d_MO_below_35 : decode b_MO_below 35 = .ok (.ireturn, 1) := by decide +kernel
theorem d_MO_copy_0 : decode b_MO_copy 0 = .ok (.aload_n 0, 1) := by decide +kernel
theorem d_MO_copy_1 : decode b_MO_copy 1 = .ok (.getfield 28, 3) := by decide +kernel
theorem d_MO_copy_4 : decode b_MO_copy 4 = .ok (.iload_n 1, 1) := by decide +kernel
theorem d_MO_copy_5 : decode b_MO_copy 5 = .ok (.laload, 1) := by decide +kernel
theorem d_MO_copy_6 : decode b_MO_copy 6 = .ok (.ldc2_w 36, 3) := by decide +kernel
theorem d_MO_copy_9 : decode b_MO_copy 9 = .ok (.lcmp, 1) := by decide +kernel
theorem d_MO_copy_10 : decode b_MO_copy 10 = .ok (.ifCond .eq 45, 3) := by decide +kernel
theorem d_MO_copy_13 : decode b_MO_copy 13 = .ok (.aload_n 0, 1) := by decide +kernel
theorem d_MO_copy_14 : decode b_MO_copy 14 = .ok (.getfield 28, 3) := by decide +kernel
theorem d_MO_copy_17 : decode b_MO_copy 17 = .ok (.iload_n 2, 1) := by decide +kernel
theorem d_MO_copy_18 : decode b_MO_copy 18 = .ok (.laload, 1) := by decide +kernel
theorem d_MO_copy_19 : decode b_MO_copy 19 = .ok (.ldc2_w 36, 3) := by decide +kernel
theorem d_MO_copy_22 : decode b_MO_copy 22 = .ok (.lcmp, 1) := by decide +kernel
theorem d_MO_copy_23 : decode b_MO_copy 23 = .ok (.ifCond .ne 32, 3) := by decide +kernel
theorem d_MO_copy_26 : decode b_MO_copy 26 = .ok (.aload_n 0, 1) := by decide +kernel
theorem d_MO_copy_27 : decode b_MO_copy 27 = .ok (.getfield 28, 3) := by decide +kernel
theorem d_MO_copy_30 : decode b_MO_copy 30 = .ok (.iload_n 2, 1) := by decide +kernel
theorem d_MO_copy_31 : decode b_MO_copy 31 = .ok (.invokestatic 64, 3) := by decide +kernel
theorem d_MO_copy_34 : decode b_MO_copy 34 = .ok (.laload, 1) := by decide +kernel
theorem d_MO_copy_35 : decode b_MO_copy 35 = .ok (.ldc2_w 34, 3) := by decide +kernel
theorem d_MO_copy_38 : decode b_MO_copy 38 = .ok (.lcmp, 1) := by decide +kernel
theorem d_MO_copy_39 : decode b_MO_copy 39 = .ok (.ifCond .ne 16, 3) := by decide +kernel
theorem d_MO_copy_42 : decode b_MO_copy 42 = .ok (.iload_n 2, 1) := by decide +kernel
theorem d_MO_copy_43 : decode b_MO_copy 43 = .ok (.iload_n 1, 1) := by decide +kernel
theorem d_MO_copy_44 : decode b_MO_copy 44 = .ok (.if_icmp .eq 11, 3) := by decide +kernel
theorem d_MO_copy_47 : decode b_MO_copy 47 = .ok (.iload_n 2, 1) := by decide +kernel
theorem d_MO_copy_48 : decode b_MO_copy 48 = .ok (.iload_n 1, 1) := by decide +kernel
theorem d_MO_copy_49 : decode b_MO_copy 49 = .ok (.invokestatic 57, 3) := by decide +kernel
theorem d_MO_copy_52 : decode b_MO_copy 52 = .ok (.ifCond .eq 5, 3) := by decide +kernel
theorem d_MO_copy_55 : decode b_MO_copy 55 = .ok (.iconst 0, 1) := by decide +kernel
theorem d_MO_copy_56 : decode b_MO_copy 56 = .ok (.ireturn, 1) := by decide +kernel
theorem d_MO_copy_57 : decode b_MO_copy 57 = .ok (.iconst 1, 1) := by decide +kernel
theorem d_MO_copy_58 : decode b_MO_copy 58 = .ok (.istore_n 3, 1) := by decide +kernel
theorem d_MO_copy_59 : decode b_MO_copy 59 = .ok (.iload_n 3, 1) := by decide +kernel
theorem d_MO_copy_60 : decode b_MO_copy 60 = .ok (.bipush 125, 2) := by decide +kernel
theorem d_MO_copy_62 : decode b_MO_copy 62 = .ok (.if_icmp .ge 46, 3) := by decide +kernel
theorem d_MO_copy_65 : decode b_MO_copy 65 = .ok (.iload_n 3, 1) := by decide +kernel
theorem d_MO_copy_66 : decode b_MO_copy 66 = .ok (.iload_n 1, 1) := by decide +kernel
theorem d_MO_copy_67 : decode b_MO_copy 67 = .ok (.if_icmp .eq 11, 3) := by decide +kernel
theorem d_MO_copy_70 : decode b_MO_copy 70 = .ok (.iload_n 3, 1) := by decide +kernel
theorem d_MO_copy_71 : decode b_MO_copy 71 = .ok (.iload_n 1, 1) := by decide +kernel
theorem d_MO_copy_72 : decode b_MO_copy 72 = .ok (.invokestatic 57, 3) := by decide +kernel
theorem d_MO_copy_75 : decode b_MO_copy 75 = .ok (.ifCond .eq 27, 3) := by decide +kernel
theorem d_MO_copy_78 : decode b_MO_copy 78 = .ok (.aload_n 0, 1) := by decide +kernel
theorem d_MO_copy_79 : decode b_MO_copy 79 = .ok (.getfield 28, 3) := by decide +kernel
theorem d_MO_copy_82 : decode b_MO_copy 82 = .ok (.iload_n 3, 1) := by decide +kernel
theorem d_MO_copy_83 : decode b_MO_copy 83 = .ok (.laload, 1) := by decide +kernel
theorem d_MO_copy_84 : decode b_MO_copy 84 = .ok (.ldc2_w 36, 3) := by decide +kernel
theorem d_MO_copy_87 : decode b_MO_copy 87 = .ok (.lcmp, 1) := by decide +kernel
theorem d_MO_copy_88 : decode b_MO_copy 88 = .ok (.ifCond .eq 14, 3) := by decide +kernel
theorem d_MO_copy_91 : decode b_MO_copy 91 = .ok (.iload_n 3, 1) := by decide +kernel
theorem d_MO_copy_92 : decode b_MO_copy 92 = .ok (.iload_n 1, 1) := by decide +kernel
theorem d_MO_copy_93 : decode b_MO_copy 93 = .ok (.iload_n 2, 1) := by decide +kernel
theorem d_MO_copy_94 : decode b_MO_copy 94 = .ok (.invokestatic 67, 3) := by decide +kernel
theorem d_MO_copy_97 : decode b_MO_copy 97 = .ok (.ifCond .ne 5, 3) := by decide +kernel
theorem d_MO_copy_100 : decode b_MO_copy 100 = .ok (.iconst 0, 1) := by decide +kernel
theorem d_MO_copy_101 : decode b_MO_copy 101 = .ok (.ireturn, 1) := by decide +kernel
theorem d_MO_copy_102 : decode b_MO_copy 102 = .ok (.iinc 3 1, 3) := by decide +kernel
theorem d_MO_copy_105 : decode b_MO_copy 105 = .ok (.goto (-46), 3) := by decide +kernel
theorem d_MO_copy_108 : decode b_MO_copy 108 = .ok (.iconst 1, 1) := by decide +kernel
theorem d_MO_copy_109 : decode b_MO_copy 109 = .ok (.istore_n 3, 1) := by decide +kernel
theorem d_MO_copy_110 : decode b_MO_copy 110 = .ok (.iload_n 3, 1) := by decide +kernel
theorem d_MO_copy_111 : decode b_MO_copy 111 = .ok (.bipush 125, 2) := by decide +kernel
theorem d_MO_copy_113 : decode b_MO_copy 113 = .ok (.if_icmp .ge 52, 3) := by decide +kernel
theorem d_MO_copy_116 : decode b_MO_copy 116 = .ok (.iload_n 3, 1) := by decide +kernel
theorem d_MO_copy_117 : decode b_MO_copy 117 = .ok (.iload_n 1, 1) := by decide +kernel
theorem d_MO_copy_118 : decode b_MO_copy 118 = .ok (.if_icmp .eq 11, 3) := by decide +kernel
theorem d_MO_copy_121 : decode b_MO_copy 121 = .ok (.iload_n 3, 1) := by decide +kernel
theorem d_MO_copy_122 : decode b_MO_copy 122 = .ok (.iload_n 1, 1) := by decide +kernel
theorem d_MO_copy_123 : decode b_MO_copy 123 = .ok (.invokestatic 57, 3) := by decide +kernel
theorem d_MO_copy_126 : decode b_MO_copy 126 = .ok (.ifCond .eq 33, 3) := by decide +kernel
theorem d_MO_copy_129 : decode b_MO_copy 129 = .ok (.aload_n 0, 1) := by decide +kernel
theorem d_MO_copy_130 : decode b_MO_copy 130 = .ok (.getfield 28, 3) := by decide +kernel
theorem d_MO_copy_133 : decode b_MO_copy 133 = .ok (.iload_n 3, 1) := by decide +kernel
theorem d_MO_copy_134 : decode b_MO_copy 134 = .ok (.laload, 1) := by decide +kernel
theorem d_MO_copy_135 : decode b_MO_copy 135 = .ok (.ldc2_w 36, 3) := by decide +kernel
theorem d_MO_copy_138 : decode b_MO_copy 138 = .ok (.lcmp, 1) := by decide +kernel
theorem d_MO_copy_139 : decode b_MO_copy 139 = .ok (.ifCond .eq 20, 3) := by decide +kernel
theorem d_MO_copy_142 : decode b_MO_copy 142 = .ok (.aload_n 0, 1) := by decide +kernel
theorem d_MO_copy_143 : decode b_MO_copy 143 = .ok (.getfield 28, 3) := by decide +kernel
theorem d_MO_copy_146 : decode b_MO_copy 146 = .ok (.iload_n 3, 1) := by decide +kernel
theorem d_MO_copy_147 : decode b_MO_copy 147 = .ok (.iload_n 1, 1) := by decide +kernel
theorem d_MO_copy_148 : decode b_MO_copy 148 = .ok (.iload_n 2, 1) := by decide +kernel
theorem d_MO_copy_149 : decode b_MO_copy 149 = .ok (.invokestatic 67, 3) := by decide +kernel
theorem d_MO_copy_152 : decode b_MO_copy 152 = .ok (.aload_n 0, 1) := by decide +kernel
theorem d_MO_copy_153 : decode b_MO_copy 153 = .ok (.getfield 28, 3) := by decide +kernel
theorem d_MO_copy_156 : decode b_MO_copy 156 = .ok (.iload_n 3, 1) := by decide +kernel
theorem d_MO_copy_157 : decode b_MO_copy 157 = .ok (.laload, 1) := by decide +kernel
theorem d_MO_copy_158 : decode b_MO_copy 158 = .ok (.lastore, 1) := by decide +kernel
theorem d_MO_copy_159 : decode b_MO_copy 159 = .ok (.iinc 3 1, 3) := by decide +kernel
theorem d_MO_copy_162 : decode b_MO_copy 162 = .ok (.goto (-52), 3) := by decide +kernel
theorem d_MO_copy_165 : decode b_MO_copy 165 = .ok (.iconst 1, 1) := by decide +kernel
theorem d_MO_copy_166 : decode b_MO_copy 166 = .ok (.ireturn, 1) := by decide +kernel
theorem d_MO_above_0 : decode b_MO_above 0 = .ok (.iload_n 0, 1) := by decide +kernel
theorem d_MO_above_1 : decode b_MO_above 1 = .ok (.iload_n 0, 1) := by decide +kernel
theorem d_MO_above_2 : decode b_MO_above 2 = .ok (.invokestatic 38, 3) := by decide +kernel
theorem d_MO_above_5 : decode b_MO_above 5 = .ok (.iconst 1, 1) := by decide +kernel
theorem d_MO_above_6 : decode b_MO_above 6 = .ok (.isub, 1) := by decide +kernel
theorem d_MO_above_7 : decode b_MO_above 7 = .ok (.invokestatic 42, 3) := by decide +kernel
theorem d_MO_above_10 : decode b_MO_above 10 = .ok (.ireturn, 1) := by decide +kernel
theorem d_MO_carried_0 : decode b_MO_carried 0 = .ok (.iload_n 2, 1) := by decide +kernel
theorem d_MO_carried_1 : decode b_MO_carried 1 = .ok (.invokestatic 38, 3) := by decide +kernel
theorem d_MO_carried_4 : decode b_MO_carried 4 = .ok (.istore_n 3, 1) := by decide +kernel
theorem d_MO_carried_5 : decode b_MO_carried 5 = .ok (.iload_n 2, 1) := by decide +kernel
theorem d_MO_carried_6 : decode b_MO_carried 6 = .ok (.istore 4, 2) := by decide +kernel
theorem d_MO_carried_8 : decode b_MO_carried 8 = .ok (.iload_n 1, 1) := by decide +kernel
theorem d_MO_carried_9 : decode b_MO_carried 9 = .ok (.invokestatic 38, 3) := by decide +kernel
theorem d_MO_carried_12 : decode b_MO_carried 12 = .ok (.istore 5, 2) := by decide +kernel
theorem d_MO_carried_14 : decode b_MO_carried 14 = .ok (.iload 5, 2) := by decide +kernel
theorem d_MO_carried_16 : decode b_MO_carried 16 = .ok (.iload_n 0, 1) := by decide +kernel
theorem d_MO_carried_17 : decode b_MO_carried 17 = .ok (.invokestatic 38, 3) := by decide +kernel
theorem d_MO_carried_20 : decode b_MO_carried 20 = .ok (.if_icmp .ge 41, 3) := by decide +kernel
theorem d_MO_carried_23 : decode b_MO_carried 23 = .ok (.iload_n 3, 1) := by decide +kernel
theorem d_MO_carried_24 : decode b_MO_carried 24 = .ok (.iconst 3, 1) := by decide +kernel
theorem d_MO_carried_25 : decode b_MO_carried 25 = .ok (.if_icmp .ne 5, 3) := by decide +kernel
theorem d_MO_carried_28 : decode b_MO_carried 28 = .ok (.iconst 0, 1) := by decide +kernel
theorem d_MO_carried_29 : decode b_MO_carried 29 = .ok (.ireturn, 1) := by decide +kernel
theorem d_MO_carried_30 : decode b_MO_carried 30 = .ok (.iload 4, 2) := by decide +kernel
theorem d_MO_carried_32 : decode b_MO_carried 32 = .ok (.iload_n 0, 1) := by decide +kernel
theorem d_MO_carried_33 : decode b_MO_carried 33 = .ok (.iload 5, 2) := by decide +kernel
theorem d_MO_carried_35 : decode b_MO_carried 35 = .ok (.invokestatic 61, 3) := by decide +kernel
theorem d_MO_carried_38 : decode b_MO_carried 38 = .ok (.iload_n 3, 1) := by decide +kernel
theorem d_MO_carried_39 : decode b_MO_carried 39 = .ok (.iconst 1, 1) := by decide +kernel
theorem d_MO_carried_40 : decode b_MO_carried 40 = .ok (.if_icmp .ne 7, 3) := by decide +kernel
theorem d_MO_carried_43 : decode b_MO_carried 43 = .ok (.iconst 5, 1) := by decide +kernel
theorem d_MO_carried_44 : decode b_MO_carried 44 = .ok (.goto 4, 3) := by decide +kernel
theorem d_MO_carried_47 : decode b_MO_carried 47 = .ok (.iconst 1, 1) := by decide +kernel
theorem d_MO_carried_48 : decode b_MO_carried 48 = .ok (.imul, 1) := by decide +kernel
theorem d_MO_carried_49 : decode b_MO_carried 49 = .ok (.iadd, 1) := by decide +kernel
theorem d_MO_carried_50 : decode b_MO_carried 50 = .ok (.istore 4, 2) := by decide +kernel
theorem d_MO_carried_52 : decode b_MO_carried 52 = .ok (.iinc 3 1, 3) := by decide +kernel
theorem d_MO_carried_55 : decode b_MO_carried 55 = .ok (.iinc 5 1, 3) := by decide +kernel
theorem d_MO_carried_58 : decode b_MO_carried 58 = .ok (.goto (-44), 3) := by decide +kernel
theorem d_MO_carried_61 : decode b_MO_carried 61 = .ok (.iload 4, 2) := by decide +kernel
theorem d_MO_carried_63 : decode b_MO_carried 63 = .ok (.ireturn, 1) := by decide +kernel
theorem d_MO_name_0 : decode b_MO_name 0 = .ok (.iload_n 1, 1) := by decide +kernel
theorem d_MO_name_1 : decode b_MO_name 1 = .ok (.ifCond .ne 10, 3) := by decide +kernel
theorem d_MO_name_4 : decode b_MO_name 4 = .ok (.iload_n 0, 1) := by decide +kernel
theorem d_MO_name_5 : decode b_MO_name 5 = .ok (.bipush 25, 2) := by decide +kernel
theorem d_MO_name_7 : decode b_MO_name 7 = .ok (.idiv, 1) := by decide +kernel
theorem d_MO_name_8 : decode b_MO_name 8 = .ok (.goto 19, 3) := by decide +kernel
theorem d_MO_name_11 : decode b_MO_name 11 = .ok (.iload_n 1, 1) := by decide +kernel
theorem d_MO_name_12 : decode b_MO_name 12 = .ok (.iconst 1, 1) := by decide +kernel
theorem d_MO_name_13 : decode b_MO_name 13 = .ok (.if_icmp .ne 11, 3) := by decide +kernel
theorem d_MO_name_16 : decode b_MO_name 16 = .ok (.iload_n 0, 1) := by decide +kernel
theorem d_MO_name_17 : decode b_MO_name 17 = .ok (.iconst 5, 1) := by decide +kernel
theorem d_MO_name_18 : decode b_MO_name 18 = .ok (.idiv, 1) := by decide +kernel
theorem d_MO_name_19 : decode b_MO_name 19 = .ok (.iconst 5, 1) := by decide +kernel
theorem d_MO_name_20 : decode b_MO_name 20 = .ok (.irem, 1) := by decide +kernel
theorem d_MO_name_21 : decode b_MO_name 21 = .ok (.goto 6, 3) := by decide +kernel
theorem d_MO_name_24 : decode b_MO_name 24 = .ok (.iload_n 0, 1) := by decide +kernel
theorem d_MO_name_25 : decode b_MO_name 25 = .ok (.iconst 5, 1) := by decide +kernel
theorem d_MO_name_26 : decode b_MO_name 26 = .ok (.irem, 1) := by decide +kernel
theorem d_MO_name_27 : decode b_MO_name 27 = .ok (.ireturn, 1) := by decide +kernel
theorem d_MO_image_0 : decode b_MO_image 0 = .ok (.aload_n 0, 1) := by decide +kernel
theorem d_MO_image_1 : decode b_MO_image 1 = .ok (.iload_n 1, 1) := by decide +kernel
theorem d_MO_image_2 : decode b_MO_image 2 = .ok (.invokevirtual 87, 3) := by decide +kernel
theorem d_MO_image_5 : decode b_MO_image 5 = .ok (.ifCond .eq 9, 3) := by decide +kernel
theorem d_MO_image_8 : decode b_MO_image 8 = .ok (.aload_n 0, 1) := by decide +kernel
theorem d_MO_image_9 : decode b_MO_image 9 = .ok (.iload_n 1, 1) := by decide +kernel
theorem d_MO_image_10 : decode b_MO_image 10 = .ok (.invokevirtual 90, 3) := by decide +kernel
theorem d_MO_image_13 : decode b_MO_image 13 = .ok (.ireturn, 1) := by decide +kernel
theorem d_MO_image_14 : decode b_MO_image 14 = .ok (.iconst 1, 1) := by decide +kernel
theorem d_MO_image_15 : decode b_MO_image 15 = .ok (.istore_n 2, 1) := by decide +kernel
theorem d_MO_image_16 : decode b_MO_image 16 = .ok (.iload_n 2, 1) := by decide +kernel
theorem d_MO_image_17 : decode b_MO_image 17 = .ok (.aload_n 0, 1) := by decide +kernel
theorem d_MO_image_18 : decode b_MO_image 18 = .ok (.getfield 17, 3) := by decide +kernel
theorem d_MO_image_21 : decode b_MO_image 21 = .ok (.if_icmp .ge 33, 3) := by decide +kernel
theorem d_MO_image_24 : decode b_MO_image 24 = .ok (.aload_n 0, 1) := by decide +kernel
theorem d_MO_image_25 : decode b_MO_image 25 = .ok (.getfield 7, 3) := by decide +kernel
theorem d_MO_image_28 : decode b_MO_image 28 = .ok (.iload_n 2, 1) := by decide +kernel
theorem d_MO_image_29 : decode b_MO_image 29 = .ok (.iaload, 1) := by decide +kernel
theorem d_MO_image_30 : decode b_MO_image 30 = .ok (.iload_n 1, 1) := by decide +kernel
theorem d_MO_image_31 : decode b_MO_image 31 = .ok (.if_icmp .ne 17, 3) := by decide +kernel
theorem d_MO_image_34 : decode b_MO_image 34 = .ok (.aload_n 0, 1) := by decide +kernel
theorem d_MO_image_35 : decode b_MO_image 35 = .ok (.iload_n 2, 1) := by decide +kernel
theorem d_MO_image_36 : decode b_MO_image 36 = .ok (.invokevirtual 87, 3) := by decide +kernel
theorem d_MO_image_39 : decode b_MO_image 39 = .ok (.ifCond .eq 9, 3) := by decide +kernel
theorem d_MO_image_42 : decode b_MO_image 42 = .ok (.aload_n 0, 1) := by decide +kernel
theorem d_MO_image_43 : decode b_MO_image 43 = .ok (.iload_n 2, 1) := by decide +kernel
theorem d_MO_image_44 : decode b_MO_image 44 = .ok (.invokevirtual 90, 3) := by decide +kernel
theorem d_MO_image_47 : decode b_MO_image 47 = .ok (.ireturn, 1) := by decide +kernel
theorem d_MO_image_48 : decode b_MO_image 48 = .ok (.iinc 2 1, 3) := by decide +kernel
theorem d_MO_image_51 : decode b_MO_image 51 = .ok (.goto (-35), 3) := by decide +kernel
theorem d_MO_image_54 : decode b_MO_image 54 = .ok (.aload_n 0, 1) := by decide +kernel
theorem d_MO_image_55 : decode b_MO_image 55 = .ok (.getfield 17, 3) := by decide +kernel
theorem d_MO_image_58 : decode b_MO_image 58 = .ok (.bipush 40, 2) := by decide +kernel
theorem d_MO_image_60 : decode b_MO_image 60 = .ok (.if_icmp .ne 6, 3) := by decide +kernel
theorem d_MO_image_63 : decode b_MO_image 63 = .ok (.bipush (-2), 2) := by decide +kernel
theorem d_MO_image_65 : decode b_MO_image 65 = .ok (.ireturn, 1) := by decide +kernel
theorem d_MO_image_66 : decode b_MO_image 66 = .ok (.aload_n 0, 1) := by decide +kernel
theorem d_MO_image_67 : decode b_MO_image 67 = .ok (.getfield 7, 3) := by decide +kernel
theorem d_MO_image_70 : decode b_MO_image 70 = .ok (.aload_n 0, 1) := by decide +kernel
theorem d_MO_image_71 : decode b_MO_image 71 = .ok (.getfield 17, 3) := by decide +kernel
theorem d_MO_image_74 : decode b_MO_image 74 = .ok (.iload_n 1, 1) := by decide +kernel
theorem d_MO_image_75 : decode b_MO_image 75 = .ok (.iastore, 1) := by decide +kernel
theorem d_MO_image_76 : decode b_MO_image 76 = .ok (.iconst 0, 1) := by decide +kernel
theorem d_MO_image_77 : decode b_MO_image 77 = .ok (.istore_n 2, 1) := by decide +kernel
theorem d_MO_image_78 : decode b_MO_image 78 = .ok (.iload_n 2, 1) := by decide +kernel
theorem d_MO_image_79 : decode b_MO_image 79 = .ok (.bipush 125, 2) := by decide +kernel
theorem d_MO_image_81 : decode b_MO_image 81 = .ok (.if_icmp .ge 29, 3) := by decide +kernel
theorem d_MO_image_84 : decode b_MO_image 84 = .ok (.aload_n 0, 1) := by decide +kernel
theorem d_MO_image_85 : decode b_MO_image 85 = .ok (.getfield 13, 3) := by decide +kernel
theorem d_MO_image_88 : decode b_MO_image 88 = .ok (.bipush 125, 2) := by decide +kernel
theorem d_MO_image_90 : decode b_MO_image 90 = .ok (.aload_n 0, 1) := by decide +kernel
theorem d_MO_image_91 : decode b_MO_image 91 = .ok (.getfield 17, 3) := by decide +kernel
theorem d_MO_image_94 : decode b_MO_image 94 = .ok (.imul, 1) := by decide +kernel
theorem d_MO_image_95 : decode b_MO_image 95 = .ok (.iload_n 2, 1) := by decide +kernel
theorem d_MO_image_96 : decode b_MO_image 96 = .ok (.iadd, 1) := by decide +kernel
theorem d_MO_image_97 : decode b_MO_image 97 = .ok (.aload_n 0, 1) := by decide +kernel
theorem d_MO_image_98 : decode b_MO_image 98 = .ok (.getfield 28, 3) := by decide +kernel
theorem d_MO_image_101 : decode b_MO_image 101 = .ok (.iload_n 2, 1) := by decide +kernel
theorem d_MO_image_102 : decode b_MO_image 102 = .ok (.laload, 1) := by decide +kernel
theorem d_MO_image_103 : decode b_MO_image 103 = .ok (.lastore, 1) := by decide +kernel
theorem d_MO_image_104 : decode b_MO_image 104 = .ok (.iinc 2 1, 3) := by decide +kernel
theorem d_MO_image_107 : decode b_MO_image 107 = .ok (.goto (-29), 3) := by decide +kernel
theorem d_MO_image_110 : decode b_MO_image 110 = .ok (.aload_n 0, 1) := by decide +kernel
theorem d_MO_image_111 : decode b_MO_image 111 = .ok (.dup, 1) := by decide +kernel
theorem d_MO_image_112 : decode b_MO_image 112 = .ok (.getfield 17, 3) := by decide +kernel
theorem d_MO_image_115 : decode b_MO_image 115 = .ok (.iconst 1, 1) := by decide +kernel
theorem d_MO_image_116 : decode b_MO_image 116 = .ok (.iadd, 1) := by decide +kernel
theorem d_MO_image_117 : decode b_MO_image 117 = .ok (.putfield 17, 3) := by decide +kernel
theorem d_MO_image_120 : decode b_MO_image 120 = .ok (.aload_n 0, 1) := by decide +kernel
theorem d_MO_image_121 : decode b_MO_image 121 = .ok (.aload_n 0, 1) := by decide +kernel
theorem d_MO_image_122 : decode b_MO_image 122 = .ok (.getfield 17, 3) := by decide +kernel
theorem d_MO_image_125 : decode b_MO_image 125 = .ok (.iconst 1, 1) := by decide +kernel
theorem d_MO_image_126 : decode b_MO_image 126 = .ok (.isub, 1) := by decide +kernel
theorem d_MO_image_127 : decode b_MO_image 127 = .ok (.invokevirtual 90, 3) := by decide +kernel
theorem d_MO_image_130 : decode b_MO_image 130 = .ok (.ireturn, 1) := by decide +kernel
theorem d_MO_workIs_0 : decode b_MO_workIs 0 = .ok (.iconst 0, 1) := by decide +kernel
theorem d_MO_workIs_1 : decode b_MO_workIs 1 = .ok (.istore_n 2, 1) := by decide +kernel
theorem d_MO_workIs_2 : decode b_MO_workIs 2 = .ok (.iload_n 2, 1) := by decide +kernel
theorem d_MO_workIs_3 : decode b_MO_workIs 3 = .ok (.bipush 125, 2) := by decide +kernel
theorem d_MO_workIs_5 : decode b_MO_workIs 5 = .ok (.if_icmp .ge 32, 3) := by decide +kernel
theorem d_MO_workIs_8 : decode b_MO_workIs 8 = .ok (.aload_n 0, 1) := by decide +kernel
theorem d_MO_workIs_9 : decode b_MO_workIs 9 = .ok (.getfield 28, 3) := by decide +kernel
theorem d_MO_workIs_12 : decode b_MO_workIs 12 = .ok (.iload_n 2, 1) := by decide +kernel
theorem d_MO_workIs_13 : decode b_MO_workIs 13 = .ok (.laload, 1) := by decide +kernel
theorem d_MO_workIs_14 : decode b_MO_workIs 14 = .ok (.aload_n 0, 1) := by decide +kernel
theorem d_MO_workIs_15 : decode b_MO_workIs 15 = .ok (.getfield 13, 3) := by decide +kernel
theorem d_MO_workIs_18 : decode b_MO_workIs 18 = .ok (.bipush 125, 2) := by decide +kernel
theorem d_MO_workIs_20 : decode b_MO_workIs 20 = .ok (.iload_n 1, 1) := by decide +kernel
theorem d_MO_workIs_21 : decode b_MO_workIs 21 = .ok (.imul, 1) := by decide +kernel
theorem d_MO_workIs_22 : decode b_MO_workIs 22 = .ok (.iload_n 2, 1) := by decide +kernel
theorem d_MO_workIs_23 : decode b_MO_workIs 23 = .ok (.iadd, 1) := by decide +kernel
theorem d_MO_workIs_24 : decode b_MO_workIs 24 = .ok (.laload, 1) := by decide +kernel
theorem d_MO_workIs_25 : decode b_MO_workIs 25 = .ok (.lcmp, 1) := by decide +kernel
theorem d_MO_workIs_26 : decode b_MO_workIs 26 = .ok (.ifCond .eq 5, 3) := by decide +kernel
theorem d_MO_workIs_29 : decode b_MO_workIs 29 = .ok (.iconst 0, 1) := by decide +kernel
theorem d_MO_workIs_30 : decode b_MO_workIs 30 = .ok (.ireturn, 1) := by decide +kernel
theorem d_MO_workIs_31 : decode b_MO_workIs 31 = .ok (.iinc 2 1, 3) := by decide +kernel
theorem d_MO_workIs_34 : decode b_MO_workIs 34 = .ok (.goto (-32), 3) := by decide +kernel
theorem d_MO_workIs_37 : decode b_MO_workIs 37 = .ok (.iconst 1, 1) := by decide +kernel
theorem d_MO_workIs_38 : decode b_MO_workIs 38 = .ok (.ireturn, 1) := by decide +kernel
theorem d_MO_answer_0 : decode b_MO_answer 0 = .ok (.aload_n 0, 1) := by decide +kernel
theorem d_MO_answer_1 : decode b_MO_answer 1 = .ok (.getfield 21, 3) := by decide +kernel
theorem d_MO_answer_4 : decode b_MO_answer 4 = .ok (.iload_n 1, 1) := by decide +kernel
theorem d_MO_answer_5 : decode b_MO_answer 5 = .ok (.baload, 1) := by decide +kernel
theorem d_MO_answer_6 : decode b_MO_answer 6 = .ok (.ifCond .eq 13, 3) := by decide +kernel
theorem d_MO_answer_9 : decode b_MO_answer 9 = .ok (.aload_n 0, 1) := by decide +kernel
theorem d_MO_answer_10 : decode b_MO_answer 10 = .ok (.dup, 1) := by decide +kernel
theorem d_MO_answer_11 : decode b_MO_answer 11 = .ok (.getfield 84, 3) := by decide +kernel
theorem d_MO_answer_14 : decode b_MO_answer 14 = .ok (.iconst 1, 1) := by decide +kernel
theorem d_MO_answer_15 : decode b_MO_answer 15 = .ok (.iadd, 1) := by decide +kernel
theorem d_MO_answer_16 : decode b_MO_answer 16 = .ok (.putfield 84, 3) := by decide +kernel
theorem d_MO_answer_19 : decode b_MO_answer 19 = .ok (.aload_n 0, 1) := by decide +kernel
theorem d_MO_answer_20 : decode b_MO_answer 20 = .ok (.getfield 21, 3) := by decide +kernel
theorem d_MO_answer_23 : decode b_MO_answer 23 = .ok (.iload_n 1, 1) := by decide +kernel
theorem d_MO_answer_24 : decode b_MO_answer 24 = .ok (.iconst 1, 1) := by decide +kernel
theorem d_MO_answer_25 : decode b_MO_answer 25 = .ok (.bastore, 1) := by decide +kernel
theorem d_MO_answer_26 : decode b_MO_answer 26 = .ok (.iload_n 1, 1) := by decide +kernel
theorem d_MO_answer_27 : decode b_MO_answer 27 = .ok (.ireturn, 1) := by decide +kernel
theorem d_MO_flatten_0 : decode b_MO_flatten 0 = .ok (.aload_n 0, 1) := by decide +kernel
theorem d_MO_flatten_1 : decode b_MO_flatten 1 = .ok (.iconst 0, 1) := by decide +kernel
theorem d_MO_flatten_2 : decode b_MO_flatten 2 = .ok (.iload_n 1, 1) := by decide +kernel
theorem d_MO_flatten_3 : decode b_MO_flatten 3 = .ok (.invokevirtual 93, 3) := by decide +kernel
theorem d_MO_flatten_6 : decode b_MO_flatten 6 = .ok (.ifCond .ne 5, 3) := by decide +kernel
theorem d_MO_flatten_9 : decode b_MO_flatten 9 = .ok (.iconst (-1), 1) := by decide +kernel
theorem d_MO_flatten_10 : decode b_MO_flatten 10 = .ok (.ireturn, 1) := by decide +kernel
theorem d_MO_flatten_11 : decode b_MO_flatten 11 = .ok (.aload_n 0, 1) := by decide +kernel
theorem d_MO_flatten_12 : decode b_MO_flatten 12 = .ok (.iload_n 1, 1) := by decide +kernel
theorem d_MO_flatten_13 : decode b_MO_flatten 13 = .ok (.invokevirtual 96, 3) := by decide +kernel
theorem d_MO_flatten_16 : decode b_MO_flatten 16 = .ok (.aload_n 0, 1) := by decide +kernel
theorem d_MO_flatten_17 : decode b_MO_flatten 17 = .ok (.iconst 0, 1) := by decide +kernel
theorem d_MO_flatten_18 : decode b_MO_flatten 18 = .ok (.invokevirtual 104, 3) := by decide +kernel
theorem d_MO_flatten_21 : decode b_MO_flatten 21 = .ok (.ireturn, 1) := by decide +kernel
theorem d_MO_tag_0 : decode b_MO_tag 0 = .ok (.iload_n 1, 1) := by decide +kernel
theorem d_MO_tag_1 : decode b_MO_tag 1 = .ok (.iload_n 2, 1) := by decide +kernel
theorem d_MO_tag_2 : decode b_MO_tag 2 = .ok (.invokestatic 133, 3) := by decide +kernel
theorem d_MO_tag_5 : decode b_MO_tag 5 = .ok (.ifCond .ne 12, 3) := by decide +kernel
theorem d_MO_tag_8 : decode b_MO_tag 8 = .ok (.aload_n 0, 1) := by decide +kernel
theorem d_MO_tag_9 : decode b_MO_tag 9 = .ok (.iload_n 1, 1) := by decide +kernel
theorem d_MO_tag_10 : decode b_MO_tag 10 = .ok (.iload_n 3, 1) := by decide +kernel
theorem d_MO_tag_11 : decode b_MO_tag 11 = .ok (.invokevirtual 93, 3) := by decide +kernel
theorem d_MO_tag_14 : decode b_MO_tag 14 = .ok (.ifCond .ne 5, 3) := by decide +kernel
theorem d_MO_tag_17 : decode b_MO_tag 17 = .ok (.iconst (-1), 1) := by decide +kernel
theorem d_MO_tag_18 : decode b_MO_tag 18 = .ok (.ireturn, 1) := by decide +kernel
theorem d_MO_tag_19 : decode b_MO_tag 19 = .ok (.aload_n 0, 1) := by decide +kernel
theorem d_MO_tag_20 : decode b_MO_tag 20 = .ok (.getfield 25, 3) := by decide +kernel
theorem d_MO_tag_23 : decode b_MO_tag 23 = .ok (.bipush 6, 2) := by decide +kernel
theorem d_MO_tag_25 : decode b_MO_tag 25 = .ok (.iload_n 1, 1) := by decide +kernel
theorem d_MO_tag_26 : decode b_MO_tag 26 = .ok (.imul, 1) := by decide +kernel
theorem d_MO_tag_27 : decode b_MO_tag 27 = .ok (.iload_n 2, 1) := by decide +kernel
theorem d_MO_tag_28 : decode b_MO_tag 28 = .ok (.iadd, 1) := by decide +kernel
theorem d_MO_tag_29 : decode b_MO_tag 29 = .ok (.iaload, 1) := by decide +kernel
theorem d_MO_tag_30 : decode b_MO_tag 30 = .ok (.istore 4, 2) := by decide +kernel
theorem d_MO_tag_32 : decode b_MO_tag 32 = .ok (.aload_n 0, 1) := by decide +kernel
theorem d_MO_tag_33 : decode b_MO_tag 33 = .ok (.getfield 25, 3) := by decide +kernel
theorem d_MO_tag_36 : decode b_MO_tag 36 = .ok (.bipush 6, 2) := by decide +kernel
theorem d_MO_tag_38 : decode b_MO_tag 38 = .ok (.iload_n 1, 1) := by decide +kernel
theorem d_MO_tag_39 : decode b_MO_tag 39 = .ok (.imul, 1) := by decide +kernel
theorem d_MO_tag_40 : decode b_MO_tag 40 = .ok (.iload_n 2, 1) := by decide +kernel
theorem d_MO_tag_41 : decode b_MO_tag 41 = .ok (.iadd, 1) := by decide +kernel
theorem d_MO_tag_42 : decode b_MO_tag 42 = .ok (.iload_n 3, 1) := by decide +kernel
theorem d_MO_tag_43 : decode b_MO_tag 43 = .ok (.iastore, 1) := by decide +kernel
theorem d_MO_tag_44 : decode b_MO_tag 44 = .ok (.iload 4, 2) := by decide +kernel
theorem d_MO_tag_46 : decode b_MO_tag 46 = .ok (.ireturn, 1) := by decide +kernel
theorem d_MO_badTag_0 : decode b_MO_badTag 0 = .ok (.iload_n 0, 1) := by decide +kernel
theorem d_MO_badTag_1 : decode b_MO_badTag 1 = .ok (.ifCond .lt 17, 3) := by decide +kernel
theorem d_MO_badTag_4 : decode b_MO_badTag 4 = .ok (.iload_n 0, 1) := by decide +kernel
theorem d_MO_badTag_5 : decode b_MO_badTag 5 = .ok (.iconst 1, 1) := by decide +kernel
theorem d_MO_badTag_6 : decode b_MO_badTag 6 = .ok (.if_icmp .gt 12, 3) := by decide +kernel
theorem d_MO_badTag_9 : decode b_MO_badTag 9 = .ok (.iload_n 1, 1) := by decide +kernel
theorem d_MO_badTag_10 : decode b_MO_badTag 10 = .ok (.ifCond .lt 8, 3) := by decide +kernel
theorem d_MO_badTag_13 : decode b_MO_badTag 13 = .ok (.iload_n 1, 1) := by decide +kernel
theorem d_MO_badTag_14 : decode b_MO_badTag 14 = .ok (.iconst 5, 1) := by decide +kernel
theorem d_MO_badTag_15 : decode b_MO_badTag 15 = .ok (.if_icmp .le 7, 3) := by decide +kernel
theorem d_MO_badTag_18 : decode b_MO_badTag 18 = .ok (.iconst 1, 1) := by decide +kernel
theorem d_MO_badTag_19 : decode b_MO_badTag 19 = .ok (.goto 4, 3) := by decide +kernel
theorem d_MO_badTag_22 : decode b_MO_badTag 22 = .ok (.iconst 0, 1) := by decide +kernel
theorem d_MO_badTag_23 : decode b_MO_badTag 23 = .ok (.ireturn, 1) := by decide +kernel
theorem d_MO_untag_0 : decode b_MO_untag 0 = .ok (.iload_n 1, 1) := by decide +kernel
theorem d_MO_untag_1 : decode b_MO_untag 1 = .ok (.iload_n 2, 1) := by decide +kernel
theorem d_MO_untag_2 : decode b_MO_untag 2 = .ok (.invokestatic 133, 3) := by decide +kernel
theorem d_MO_untag_5 : decode b_MO_untag 5 = .ok (.ifCond .ne 19, 3) := by decide +kernel
theorem d_MO_untag_8 : decode b_MO_untag 8 = .ok (.aload_n 0, 1) := by decide +kernel
theorem d_MO_untag_9 : decode b_MO_untag 9 = .ok (.getfield 25, 3) := by decide +kernel
theorem d_MO_untag_12 : decode b_MO_untag 12 = .ok (.bipush 6, 2) := by decide +kernel
theorem d_MO_untag_14 : decode b_MO_untag 14 = .ok (.iload_n 1, 1) := by decide +kernel
theorem d_MO_untag_15 : decode b_MO_untag 15 = .ok (.imul, 1) := by decide +kernel
theorem d_MO_untag_16 : decode b_MO_untag 16 = .ok (.iload_n 2, 1) := by decide +kernel
theorem d_MO_untag_17 : decode b_MO_untag 17 = .ok (.iadd, 1) := by decide +kernel
theorem d_MO_untag_18 : decode b_MO_untag 18 = .ok (.iaload, 1) := by decide +kernel
theorem d_MO_untag_19 : decode b_MO_untag 19 = .ok (.bipush 40, 2) := by decide +kernel
theorem d_MO_untag_21 : decode b_MO_untag 21 = .ok (.if_icmp .ne 5, 3) := by decide +kernel
theorem d_MO_untag_24 : decode b_MO_untag 24 = .ok (.iconst (-1), 1) := by decide +kernel
theorem d_MO_untag_25 : decode b_MO_untag 25 = .ok (.ireturn, 1) := by decide +kernel
theorem d_MO_untag_26 : decode b_MO_untag 26 = .ok (.aload_n 0, 1) := by decide +kernel
theorem d_MO_untag_27 : decode b_MO_untag 27 = .ok (.getfield 25, 3) := by decide +kernel
theorem d_MO_untag_30 : decode b_MO_untag 30 = .ok (.bipush 6, 2) := by decide +kernel
theorem d_MO_untag_32 : decode b_MO_untag 32 = .ok (.iload_n 1, 1) := by decide +kernel
theorem d_MO_untag_33 : decode b_MO_untag 33 = .ok (.imul, 1) := by decide +kernel
theorem d_MO_untag_34 : decode b_MO_untag 34 = .ok (.iload_n 2, 1) := by decide +kernel
theorem d_MO_untag_35 : decode b_MO_untag 35 = .ok (.iadd, 1) := by decide +kernel
theorem d_MO_untag_36 : decode b_MO_untag 36 = .ok (.iaload, 1) := by decide +kernel
theorem d_MO_untag_37 : decode b_MO_untag 37 = .ok (.istore_n 3, 1) := by decide +kernel
theorem d_MO_untag_38 : decode b_MO_untag 38 = .ok (.aload_n 0, 1) := by decide +kernel
theorem d_MO_untag_39 : decode b_MO_untag 39 = .ok (.getfield 25, 3) := by decide +kernel
theorem d_MO_untag_42 : decode b_MO_untag 42 = .ok (.bipush 6, 2) := by decide +kernel
theorem d_MO_untag_44 : decode b_MO_untag 44 = .ok (.iload_n 1, 1) := by decide +kernel
theorem d_MO_untag_45 : decode b_MO_untag 45 = .ok (.imul, 1) := by decide +kernel
theorem d_MO_untag_46 : decode b_MO_untag 46 = .ok (.iload_n 2, 1) := by decide +kernel
theorem d_MO_untag_47 : decode b_MO_untag 47 = .ok (.iadd, 1) := by decide +kernel
theorem d_MO_untag_48 : decode b_MO_untag 48 = .ok (.bipush 40, 2) := by decide +kernel
theorem d_MO_untag_50 : decode b_MO_untag 50 = .ok (.iastore, 1) := by decide +kernel
theorem d_MO_untag_51 : decode b_MO_untag 51 = .ok (.iload_n 3, 1) := by decide +kernel
theorem d_MO_untag_52 : decode b_MO_untag 52 = .ok (.ireturn, 1) := by decide +kernel
theorem d_MO_send_0 : decode b_MO_send 0 = .ok (.iload_n 1, 1) := by decide +kernel
theorem d_MO_send_1 : decode b_MO_send 1 = .ok (.iload_n 2, 1) := by decide +kernel
theorem d_MO_send_2 : decode b_MO_send 2 = .ok (.invokestatic 133, 3) := by decide +kernel
theorem d_MO_send_5 : decode b_MO_send 5 = .ok (.ifCond .ne 19, 3) := by decide +kernel
theorem d_MO_send_8 : decode b_MO_send 8 = .ok (.aload_n 0, 1) := by decide +kernel
theorem d_MO_send_9 : decode b_MO_send 9 = .ok (.getfield 25, 3) := by decide +kernel
theorem d_MO_send_12 : decode b_MO_send 12 = .ok (.bipush 6, 2) := by decide +kernel
theorem d_MO_send_14 : decode b_MO_send 14 = .ok (.iload_n 1, 1) := by decide +kernel
theorem d_MO_send_15 : decode b_MO_send 15 = .ok (.imul, 1) := by decide +kernel
theorem d_MO_send_16 : decode b_MO_send 16 = .ok (.iload_n 2, 1) := by decide +kernel
theorem d_MO_send_17 : decode b_MO_send 17 = .ok (.iadd, 1) := by decide +kernel
theorem d_MO_send_18 : decode b_MO_send 18 = .ok (.iaload, 1) := by decide +kernel
theorem d_MO_send_19 : decode b_MO_send 19 = .ok (.bipush 40, 2) := by decide +kernel
theorem d_MO_send_21 : decode b_MO_send 21 = .ok (.if_icmp .ne 5, 3) := by decide +kernel
theorem d_MO_send_24 : decode b_MO_send 24 = .ok (.iconst (-1), 1) := by decide +kernel
theorem d_MO_send_25 : decode b_MO_send 25 = .ok (.ireturn, 1) := by decide +kernel
theorem d_MO_send_26 : decode b_MO_send 26 = .ok (.aload_n 0, 1) := by decide +kernel
theorem d_MO_send_27 : decode b_MO_send 27 = .ok (.getfield 25, 3) := by decide +kernel
theorem d_MO_send_30 : decode b_MO_send 30 = .ok (.bipush 6, 2) := by decide +kernel
theorem d_MO_send_32 : decode b_MO_send 32 = .ok (.iload_n 1, 1) := by decide +kernel
theorem d_MO_send_33 : decode b_MO_send 33 = .ok (.imul, 1) := by decide +kernel
theorem d_MO_send_34 : decode b_MO_send 34 = .ok (.iload_n 2, 1) := by decide +kernel
theorem d_MO_send_35 : decode b_MO_send 35 = .ok (.iadd, 1) := by decide +kernel
theorem d_MO_send_36 : decode b_MO_send 36 = .ok (.iaload, 1) := by decide +kernel
theorem d_MO_send_37 : decode b_MO_send 37 = .ok (.istore_n 3, 1) := by decide +kernel
theorem d_MO_send_38 : decode b_MO_send 38 = .ok (.aload_n 0, 1) := by decide +kernel
theorem d_MO_send_39 : decode b_MO_send 39 = .ok (.iconst 1, 1) := by decide +kernel
theorem d_MO_send_40 : decode b_MO_send 40 = .ok (.iload_n 1, 1) := by decide +kernel
theorem d_MO_send_41 : decode b_MO_send 41 = .ok (.isub, 1) := by decide +kernel
theorem d_MO_send_42 : decode b_MO_send 42 = .ok (.invokevirtual 136, 3) := by decide +kernel
theorem d_MO_send_45 : decode b_MO_send 45 = .ok (.aload_n 0, 1) := by decide +kernel
theorem d_MO_send_46 : decode b_MO_send 46 = .ok (.iconst 0, 1) := by decide +kernel
theorem d_MO_send_47 : decode b_MO_send 47 = .ok (.invokevirtual 139, 3) := by decide +kernel
theorem d_MO_send_50 : decode b_MO_send 50 = .ok (.istore 4, 2) := by decide +kernel
theorem d_MO_send_52 : decode b_MO_send 52 = .ok (.aload_n 0, 1) := by decide +kernel
theorem d_MO_send_53 : decode b_MO_send 53 = .ok (.iload_n 3, 1) := by decide +kernel
theorem d_MO_send_54 : decode b_MO_send 54 = .ok (.invokevirtual 121, 3) := by decide +kernel
theorem d_MO_send_57 : decode b_MO_send 57 = .ok (.aload_n 0, 1) := by decide +kernel
theorem d_MO_send_58 : decode b_MO_send 58 = .ok (.iconst 0, 1) := by decide +kernel
theorem d_MO_send_59 : decode b_MO_send 59 = .ok (.invokevirtual 139, 3) := by decide +kernel
theorem d_MO_send_62 : decode b_MO_send 62 = .ok (.istore 5, 2) := by decide +kernel
theorem d_MO_send_64 : decode b_MO_send 64 = .ok (.aload_n 0, 1) := by decide +kernel
theorem d_MO_send_65 : decode b_MO_send 65 = .ok (.getfield 21, 3) := by decide +kernel
theorem d_MO_send_68 : decode b_MO_send 68 = .ok (.bipush 40, 2) := by decide +kernel
theorem d_MO_send_70 : decode b_MO_send 70 = .ok (.iconst 1, 1) := by decide +kernel
theorem d_MO_send_71 : decode b_MO_send 71 = .ok (.iload_n 1, 1) := by decide +kernel
theorem d_MO_send_72 : decode b_MO_send 72 = .ok (.isub, 1) := by decide +kernel
theorem d_MO_send_73 : decode b_MO_send 73 = .ok (.imul, 1) := by decide +kernel
theorem d_MO_send_74 : decode b_MO_send 74 = .ok (.iload_n 3, 1) := by decide +kernel
theorem d_MO_send_75 : decode b_MO_send 75 = .ok (.iadd, 1) := by decide +kernel
theorem d_MO_send_76 : decode b_MO_send 76 = .ok (.iconst 1, 1) := by decide +kernel
theorem d_MO_send_77 : decode b_MO_send 77 = .ok (.bastore, 1) := by decide +kernel
theorem d_MO_send_78 : decode b_MO_send 78 = .ok (.aload_n 0, 1) := by decide +kernel
theorem d_MO_send_79 : decode b_MO_send 79 = .ok (.getfield 25, 3) := by decide +kernel
theorem d_MO_send_82 : decode b_MO_send 82 = .ok (.bipush 6, 2) := by decide +kernel
theorem d_MO_send_84 : decode b_MO_send 84 = .ok (.iconst 1, 1) := by decide +kernel
theorem d_MO_send_85 : decode b_MO_send 85 = .ok (.iload_n 1, 1) := by decide +kernel
theorem d_MO_send_86 : decode b_MO_send 86 = .ok (.isub, 1) := by decide +kernel
theorem d_MO_send_87 : decode b_MO_send 87 = .ok (.imul, 1) := by decide +kernel
theorem d_MO_send_88 : decode b_MO_send 88 = .ok (.iload_n 2, 1) := by decide +kernel
theorem d_MO_send_89 : decode b_MO_send 89 = .ok (.iadd, 1) := by decide +kernel
theorem d_MO_send_90 : decode b_MO_send 90 = .ok (.iload_n 3, 1) := by decide +kernel
theorem d_MO_send_91 : decode b_MO_send 91 = .ok (.iastore, 1) := by decide +kernel
theorem d_MO_send_92 : decode b_MO_send 92 = .ok (.iload 5, 2) := by decide +kernel
theorem d_MO_send_94 : decode b_MO_send 94 = .ok (.iload 4, 2) := by decide +kernel
theorem d_MO_send_96 : decode b_MO_send 96 = .ok (.isub, 1) := by decide +kernel
theorem d_MO_send_97 : decode b_MO_send 97 = .ok (.ireturn, 1) := by decide +kernel
theorem d_MO_chooseHeld_0 : decode b_MO_chooseHeld 0 = .ok (.aload_n 0, 1) := by decide +kernel
theorem d_MO_chooseHeld_1 : decode b_MO_chooseHeld 1 = .ok (.invokevirtual 118, 3) := by decide +kernel
theorem d_MO_chooseHeld_4 : decode b_MO_chooseHeld 4 = .ok (.iconst 0, 1) := by decide +kernel
theorem d_MO_chooseHeld_5 : decode b_MO_chooseHeld 5 = .ok (.istore_n 2, 1) := by decide +kernel
theorem d_MO_chooseHeld_6 : decode b_MO_chooseHeld 6 = .ok (.iload_n 2, 1) := by decide +kernel
theorem d_MO_chooseHeld_7 : decode b_MO_chooseHeld 7 = .ok (.aload_n 0, 1) := by decide +kernel
theorem d_MO_chooseHeld_8 : decode b_MO_chooseHeld 8 = .ok (.getfield 17, 3) := by decide +kernel
theorem d_MO_chooseHeld_11 : decode b_MO_chooseHeld 11 = .ok (.if_icmp .ge 28, 3) := by decide +kernel
theorem d_MO_chooseHeld_14 : decode b_MO_chooseHeld 14 = .ok (.aload_n 0, 1) := by decide +kernel
theorem d_MO_chooseHeld_15 : decode b_MO_chooseHeld 15 = .ok (.getfield 21, 3) := by decide +kernel
end
section
theorem d_MO_chooseHeld_18 : decode b_MO_chooseHeld 18 = .ok (.bipush 40, 2) := by decide +kernel
theorem d_MO_chooseHeld_20 : decode b_MO_chooseHeld 20 = .ok (.iload_n 1, 1) := by decide +kernel
theorem d_MO_chooseHeld_21 : decode b_MO_chooseHeld 21 = .ok (.imul, 1) := by decide +kernel
theorem d_MO_chooseHeld_22 : decode b_MO_chooseHeld 22 = .ok (.iload_n 2, 1) := by decide +kernel
theorem d_MO_chooseHeld_23 : decode b_MO_chooseHeld 23 = .ok (.iadd, 1) := by decide +kernel
theorem d_MO_chooseHeld_24 : decode b_MO_chooseHeld 24 = .ok (.baload, 1) := by decide +kernel
theorem d_MO_chooseHeld_25 : decode b_MO_chooseHeld 25 = .ok (.ifCond .eq 8, 3) := by decide +kernel
theorem d_MO_chooseHeld_28 : decode b_MO_chooseHeld 28 = .ok (.aload_n 0, 1) := by decide +kernel
theorem d_MO_chooseHeld_29 : decode b_MO_chooseHeld 29 = .ok (.iload_n 2, 1) := by decide +kernel
theorem d_MO_chooseHeld_30 : decode b_MO_chooseHeld 30 = .ok (.invokevirtual 121, 3) := by decide +kernel
theorem d_MO_chooseHeld_33 : decode b_MO_chooseHeld 33 = .ok (.iinc 2 1, 3) := by decide +kernel
theorem d_MO_chooseHeld_36 : decode b_MO_chooseHeld 36 = .ok (.goto (-30), 3) := by decide +kernel
theorem d_MO_chooseHeld_39 : decode b_MO_chooseHeld 39 = .ok (.return_, 1) := by decide +kernel
theorem d_MO_chooseNone_0 : decode b_MO_chooseNone 0 = .ok (.iconst 0, 1) := by decide +kernel
theorem d_MO_chooseNone_1 : decode b_MO_chooseNone 1 = .ok (.istore_n 1, 1) := by decide +kernel
theorem d_MO_chooseNone_2 : decode b_MO_chooseNone 2 = .ok (.iload_n 1, 1) := by decide +kernel
theorem d_MO_chooseNone_3 : decode b_MO_chooseNone 3 = .ok (.bipush 40, 2) := by decide +kernel
theorem d_MO_chooseNone_5 : decode b_MO_chooseNone 5 = .ok (.if_icmp .ge 16, 3) := by decide +kernel
theorem d_MO_chooseNone_8 : decode b_MO_chooseNone 8 = .ok (.aload_n 0, 1) := by decide +kernel
theorem d_MO_chooseNone_9 : decode b_MO_chooseNone 9 = .ok (.getfield 31, 3) := by decide +kernel
theorem d_MO_chooseNone_12 : decode b_MO_chooseNone 12 = .ok (.iload_n 1, 1) := by decide +kernel
theorem d_MO_chooseNone_13 : decode b_MO_chooseNone 13 = .ok (.iconst 0, 1) := by decide +kernel
theorem d_MO_chooseNone_14 : decode b_MO_chooseNone 14 = .ok (.bastore, 1) := by decide +kernel
theorem d_MO_chooseNone_15 : decode b_MO_chooseNone 15 = .ok (.iinc 1 1, 3) := by decide +kernel
theorem d_MO_chooseNone_18 : decode b_MO_chooseNone 18 = .ok (.goto (-16), 3) := by decide +kernel
theorem d_MO_chooseNone_21 : decode b_MO_chooseNone 21 = .ok (.return_, 1) := by decide +kernel
theorem d_MO_choose_0 : decode b_MO_choose 0 = .ok (.iload_n 1, 1) := by decide +kernel
theorem d_MO_choose_1 : decode b_MO_choose 1 = .ok (.istore_n 2, 1) := by decide +kernel
theorem d_MO_choose_2 : decode b_MO_choose 2 = .ok (.iload_n 2, 1) := by decide +kernel
theorem d_MO_choose_3 : decode b_MO_choose 3 = .ok (.ifCond .eq 20, 3) := by decide +kernel
theorem d_MO_choose_6 : decode b_MO_choose 6 = .ok (.aload_n 0, 1) := by decide +kernel
theorem d_MO_choose_7 : decode b_MO_choose 7 = .ok (.getfield 31, 3) := by decide +kernel
theorem d_MO_choose_10 : decode b_MO_choose 10 = .ok (.iload_n 2, 1) := by decide +kernel
theorem d_MO_choose_11 : decode b_MO_choose 11 = .ok (.iconst 1, 1) := by decide +kernel
theorem d_MO_choose_12 : decode b_MO_choose 12 = .ok (.bastore, 1) := by decide +kernel
theorem d_MO_choose_13 : decode b_MO_choose 13 = .ok (.aload_n 0, 1) := by decide +kernel
theorem d_MO_choose_14 : decode b_MO_choose 14 = .ok (.getfield 7, 3) := by decide +kernel
theorem d_MO_choose_17 : decode b_MO_choose 17 = .ok (.iload_n 2, 1) := by decide +kernel
theorem d_MO_choose_18 : decode b_MO_choose 18 = .ok (.iaload, 1) := by decide +kernel
theorem d_MO_choose_19 : decode b_MO_choose 19 = .ok (.istore_n 2, 1) := by decide +kernel
theorem d_MO_choose_20 : decode b_MO_choose 20 = .ok (.goto (-18), 3) := by decide +kernel
theorem d_MO_choose_23 : decode b_MO_choose 23 = .ok (.return_, 1) := by decide +kernel
theorem d_MO_different_0 : decode b_MO_different 0 = .ok (.iconst 0, 1) := by decide +kernel
theorem d_MO_different_1 : decode b_MO_different 1 = .ok (.istore_n 2, 1) := by decide +kernel
theorem d_MO_different_2 : decode b_MO_different 2 = .ok (.iconst 1, 1) := by decide +kernel
theorem d_MO_different_3 : decode b_MO_different 3 = .ok (.istore_n 3, 1) := by decide +kernel
theorem d_MO_different_4 : decode b_MO_different 4 = .ok (.iload_n 3, 1) := by decide +kernel
theorem d_MO_different_5 : decode b_MO_different 5 = .ok (.aload_n 0, 1) := by decide +kernel
theorem d_MO_different_6 : decode b_MO_different 6 = .ok (.getfield 17, 3) := by decide +kernel
theorem d_MO_different_9 : decode b_MO_different 9 = .ok (.if_icmp .ge 43, 3) := by decide +kernel
theorem d_MO_different_12 : decode b_MO_different 12 = .ok (.aload_n 0, 1) := by decide +kernel
theorem d_MO_different_13 : decode b_MO_different 13 = .ok (.getfield 31, 3) := by decide +kernel
theorem d_MO_different_16 : decode b_MO_different 16 = .ok (.iload_n 3, 1) := by decide +kernel
theorem d_MO_different_17 : decode b_MO_different 17 = .ok (.baload, 1) := by decide +kernel
theorem d_MO_different_18 : decode b_MO_different 18 = .ok (.ifCond .eq 28, 3) := by decide +kernel
theorem d_MO_different_21 : decode b_MO_different 21 = .ok (.aload_n 0, 1) := by decide +kernel
theorem d_MO_different_22 : decode b_MO_different 22 = .ok (.iload_n 3, 1) := by decide +kernel
theorem d_MO_different_23 : decode b_MO_different 23 = .ok (.iload_n 3, 1) := by decide +kernel
theorem d_MO_different_24 : decode b_MO_different 24 = .ok (.invokevirtual 127, 3) := by decide +kernel
theorem d_MO_different_27 : decode b_MO_different 27 = .ok (.ifCond .ne 19, 3) := by decide +kernel
theorem d_MO_different_30 : decode b_MO_different 30 = .ok (.iload_n 2, 1) := by decide +kernel
theorem d_MO_different_31 : decode b_MO_different 31 = .ok (.iload_n 1, 1) := by decide +kernel
theorem d_MO_different_32 : decode b_MO_different 32 = .ok (.ifCond .eq 11, 3) := by decide +kernel
theorem d_MO_different_35 : decode b_MO_different 35 = .ok (.aload_n 0, 1) := by decide +kernel
theorem d_MO_different_36 : decode b_MO_different 36 = .ok (.iload_n 3, 1) := by decide +kernel
theorem d_MO_different_37 : decode b_MO_different 37 = .ok (.invokevirtual 130, 3) := by decide +kernel
theorem d_MO_different_40 : decode b_MO_different 40 = .ok (.goto 4, 3) := by decide +kernel
theorem d_MO_different_43 : decode b_MO_different 43 = .ok (.iconst 1, 1) := by decide +kernel
theorem d_MO_different_44 : decode b_MO_different 44 = .ok (.iadd, 1) := by decide +kernel
theorem d_MO_different_45 : decode b_MO_different 45 = .ok (.istore_n 2, 1) := by decide +kernel
theorem d_MO_different_46 : decode b_MO_different 46 = .ok (.iinc 3 1, 3) := by decide +kernel
theorem d_MO_different_49 : decode b_MO_different 49 = .ok (.goto (-45), 3) := by decide +kernel
theorem d_MO_different_52 : decode b_MO_different 52 = .ok (.iload_n 2, 1) := by decide +kernel
theorem d_MO_different_53 : decode b_MO_different 53 = .ok (.ireturn, 1) := by decide +kernel
theorem d_MO_there_0 : decode b_MO_there 0 = .ok (.iconst 1, 1) := by decide +kernel
theorem d_MO_there_1 : decode b_MO_there 1 = .ok (.istore_n 3, 1) := by decide +kernel
theorem d_MO_there_2 : decode b_MO_there 2 = .ok (.iload_n 3, 1) := by decide +kernel
theorem d_MO_there_3 : decode b_MO_there 3 = .ok (.iload_n 2, 1) := by decide +kernel
theorem d_MO_there_4 : decode b_MO_there 4 = .ok (.if_icmp .ge 29, 3) := by decide +kernel
theorem d_MO_there_7 : decode b_MO_there 7 = .ok (.aload_n 0, 1) := by decide +kernel
theorem d_MO_there_8 : decode b_MO_there 8 = .ok (.getfield 31, 3) := by decide +kernel
theorem d_MO_there_11 : decode b_MO_there 11 = .ok (.iload_n 3, 1) := by decide +kernel
theorem d_MO_there_12 : decode b_MO_there 12 = .ok (.baload, 1) := by decide +kernel
theorem d_MO_there_13 : decode b_MO_there 13 = .ok (.ifCond .eq 14, 3) := by decide +kernel
theorem d_MO_there_16 : decode b_MO_there 16 = .ok (.aload_n 0, 1) := by decide +kernel
theorem d_MO_there_17 : decode b_MO_there 17 = .ok (.iload_n 3, 1) := by decide +kernel
theorem d_MO_there_18 : decode b_MO_there 18 = .ok (.iload_n 1, 1) := by decide +kernel
theorem d_MO_there_19 : decode b_MO_there 19 = .ok (.invokevirtual 124, 3) := by decide +kernel
theorem d_MO_there_22 : decode b_MO_there 22 = .ok (.ifCond .eq 5, 3) := by decide +kernel
theorem d_MO_there_25 : decode b_MO_there 25 = .ok (.iconst 1, 1) := by decide +kernel
theorem d_MO_there_26 : decode b_MO_there 26 = .ok (.ireturn, 1) := by decide +kernel
theorem d_MO_there_27 : decode b_MO_there 27 = .ok (.iinc 3 1, 3) := by decide +kernel
theorem d_MO_there_30 : decode b_MO_there 30 = .ok (.goto (-28), 3) := by decide +kernel
theorem d_MO_there_33 : decode b_MO_there 33 = .ok (.iconst 0, 1) := by decide +kernel
theorem d_MO_there_34 : decode b_MO_there 34 = .ok (.ireturn, 1) := by decide +kernel
theorem d_MO_same_0 : decode b_MO_same 0 = .ok (.iconst 1, 1) := by decide +kernel
theorem d_MO_same_1 : decode b_MO_same 1 = .ok (.istore_n 3, 1) := by decide +kernel
theorem d_MO_same_2 : decode b_MO_same 2 = .ok (.iload_n 3, 1) := by decide +kernel
theorem d_MO_same_3 : decode b_MO_same 3 = .ok (.bipush 125, 2) := by decide +kernel
theorem d_MO_same_5 : decode b_MO_same 5 = .ok (.if_icmp .ge 34, 3) := by decide +kernel
theorem d_MO_same_8 : decode b_MO_same 8 = .ok (.iload_n 3, 1) := by decide +kernel
theorem d_MO_same_9 : decode b_MO_same 9 = .ok (.invokestatic 46, 3) := by decide +kernel
theorem d_MO_same_12 : decode b_MO_same 12 = .ok (.ifCond .eq 21, 3) := by decide +kernel
theorem d_MO_same_15 : decode b_MO_same 15 = .ok (.aload_n 0, 1) := by decide +kernel
theorem d_MO_same_16 : decode b_MO_same 16 = .ok (.iload_n 1, 1) := by decide +kernel
theorem d_MO_same_17 : decode b_MO_same 17 = .ok (.iload_n 3, 1) := by decide +kernel
theorem d_MO_same_18 : decode b_MO_same 18 = .ok (.invokevirtual 111, 3) := by decide +kernel
theorem d_MO_same_21 : decode b_MO_same 21 = .ok (.aload_n 0, 1) := by decide +kernel
theorem d_MO_same_22 : decode b_MO_same 22 = .ok (.iload_n 2, 1) := by decide +kernel
theorem d_MO_same_23 : decode b_MO_same 23 = .ok (.iload_n 3, 1) := by decide +kernel
theorem d_MO_same_24 : decode b_MO_same 24 = .ok (.invokevirtual 111, 3) := by decide +kernel
theorem d_MO_same_27 : decode b_MO_same 27 = .ok (.lcmp, 1) := by decide +kernel
theorem d_MO_same_28 : decode b_MO_same 28 = .ok (.ifCond .eq 5, 3) := by decide +kernel
theorem d_MO_same_31 : decode b_MO_same 31 = .ok (.iconst 0, 1) := by decide +kernel
theorem d_MO_same_32 : decode b_MO_same 32 = .ok (.ireturn, 1) := by decide +kernel
theorem d_MO_same_33 : decode b_MO_same 33 = .ok (.iinc 3 1, 3) := by decide +kernel
theorem d_MO_same_36 : decode b_MO_same 36 = .ok (.goto (-34), 3) := by decide +kernel
theorem d_MO_same_39 : decode b_MO_same 39 = .ok (.iconst 1, 1) := by decide +kernel
theorem d_MO_same_40 : decode b_MO_same 40 = .ok (.ireturn, 1) := by decide +kernel
theorem d_MO_mark_0 : decode b_MO_mark 0 = .ok (.aload_n 0, 1) := by decide +kernel
theorem d_MO_mark_1 : decode b_MO_mark 1 = .ok (.getfield 13, 3) := by decide +kernel
theorem d_MO_mark_4 : decode b_MO_mark 4 = .ok (.bipush 125, 2) := by decide +kernel
theorem d_MO_mark_6 : decode b_MO_mark 6 = .ok (.aload_n 0, 1) := by decide +kernel
theorem d_MO_mark_7 : decode b_MO_mark 7 = .ok (.getfield 7, 3) := by decide +kernel
theorem d_MO_mark_10 : decode b_MO_mark 10 = .ok (.iload_n 1, 1) := by decide +kernel
theorem d_MO_mark_11 : decode b_MO_mark 11 = .ok (.iaload, 1) := by decide +kernel
theorem d_MO_mark_12 : decode b_MO_mark 12 = .ok (.imul, 1) := by decide +kernel
theorem d_MO_mark_13 : decode b_MO_mark 13 = .ok (.iload_n 2, 1) := by decide +kernel
theorem d_MO_mark_14 : decode b_MO_mark 14 = .ok (.iadd, 1) := by decide +kernel
theorem d_MO_mark_15 : decode b_MO_mark 15 = .ok (.laload, 1) := by decide +kernel
theorem d_MO_mark_16 : decode b_MO_mark 16 = .ok (.lstore_n 3, 1) := by decide +kernel
theorem d_MO_mark_17 : decode b_MO_mark 17 = .ok (.aload_n 0, 1) := by decide +kernel
theorem d_MO_mark_18 : decode b_MO_mark 18 = .ok (.getfield 13, 3) := by decide +kernel
theorem d_MO_mark_21 : decode b_MO_mark 21 = .ok (.bipush 125, 2) := by decide +kernel
theorem d_MO_mark_23 : decode b_MO_mark 23 = .ok (.iload_n 1, 1) := by decide +kernel
theorem d_MO_mark_24 : decode b_MO_mark 24 = .ok (.imul, 1) := by decide +kernel
theorem d_MO_mark_25 : decode b_MO_mark 25 = .ok (.iload_n 2, 1) := by decide +kernel
theorem d_MO_mark_26 : decode b_MO_mark 26 = .ok (.iadd, 1) := by decide +kernel
theorem d_MO_mark_27 : decode b_MO_mark 27 = .ok (.laload, 1) := by decide +kernel
theorem d_MO_mark_28 : decode b_MO_mark 28 = .ok (.lstore 5, 2) := by decide +kernel
theorem d_MO_mark_30 : decode b_MO_mark 30 = .ok (.lload 5, 2) := by decide +kernel
theorem d_MO_mark_32 : decode b_MO_mark 32 = .ok (.ldc2_w 36, 3) := by decide +kernel
theorem d_MO_mark_35 : decode b_MO_mark 35 = .ok (.lcmp, 1) := by decide +kernel
theorem d_MO_mark_36 : decode b_MO_mark 36 = .ok (.ifCond .eq 19, 3) := by decide +kernel
theorem d_MO_mark_39 : decode b_MO_mark 39 = .ok (.lload_n 3, 1) := by decide +kernel
theorem d_MO_mark_40 : decode b_MO_mark 40 = .ok (.lload 5, 2) := by decide +kernel
theorem d_MO_mark_42 : decode b_MO_mark 42 = .ok (.lcmp, 1) := by decide +kernel
theorem d_MO_mark_43 : decode b_MO_mark 43 = .ok (.ifCond .ne 9, 3) := by decide +kernel
theorem d_MO_mark_46 : decode b_MO_mark 46 = .ok (.ldc2_w 107, 3) := by decide +kernel
theorem d_MO_mark_49 : decode b_MO_mark 49 = .ok (.goto 5, 3) := by decide +kernel
theorem d_MO_mark_52 : decode b_MO_mark 52 = .ok (.lload 5, 2) := by decide +kernel
theorem d_MO_mark_54 : decode b_MO_mark 54 = .ok (.lreturn, 1) := by decide +kernel
theorem d_MO_mark_55 : decode b_MO_mark 55 = .ok (.lload_n 3, 1) := by decide +kernel
theorem d_MO_mark_56 : decode b_MO_mark 56 = .ok (.ldc2_w 36, 3) := by decide +kernel
theorem d_MO_mark_59 : decode b_MO_mark 59 = .ok (.lcmp, 1) := by decide +kernel
theorem d_MO_mark_60 : decode b_MO_mark 60 = .ok (.ifCond .eq 30, 3) := by decide +kernel
theorem d_MO_mark_63 : decode b_MO_mark 63 = .ok (.aload_n 0, 1) := by decide +kernel
theorem d_MO_mark_64 : decode b_MO_mark 64 = .ok (.getfield 13, 3) := by decide +kernel
theorem d_MO_mark_67 : decode b_MO_mark 67 = .ok (.bipush 125, 2) := by decide +kernel
theorem d_MO_mark_69 : decode b_MO_mark 69 = .ok (.iload_n 1, 1) := by decide +kernel
theorem d_MO_mark_70 : decode b_MO_mark 70 = .ok (.imul, 1) := by decide +kernel
theorem d_MO_mark_71 : decode b_MO_mark 71 = .ok (.iload_n 2, 1) := by decide +kernel
theorem d_MO_mark_72 : decode b_MO_mark 72 = .ok (.invokestatic 64, 3) := by decide +kernel
theorem d_MO_mark_75 : decode b_MO_mark 75 = .ok (.iadd, 1) := by decide +kernel
theorem d_MO_mark_76 : decode b_MO_mark 76 = .ok (.laload, 1) := by decide +kernel
theorem d_MO_mark_77 : decode b_MO_mark 77 = .ok (.ldc2_w 34, 3) := by decide +kernel
theorem d_MO_mark_80 : decode b_MO_mark 80 = .ok (.lcmp, 1) := by decide +kernel
theorem d_MO_mark_81 : decode b_MO_mark 81 = .ok (.ifCond .ne 9, 3) := by decide +kernel
theorem d_MO_mark_84 : decode b_MO_mark 84 = .ok (.ldc2_w 109, 3) := by decide +kernel
theorem d_MO_mark_87 : decode b_MO_mark 87 = .ok (.goto 6, 3) := by decide +kernel
theorem d_MO_mark_90 : decode b_MO_mark 90 = .ok (.ldc2_w 107, 3) := by decide +kernel
theorem d_MO_mark_93 : decode b_MO_mark 93 = .ok (.lreturn, 1) := by decide +kernel
theorem d_MO_size_0 : decode b_MO_size 0 = .ok (.iconst 0, 1) := by decide +kernel
theorem d_MO_size_1 : decode b_MO_size 1 = .ok (.istore_n 2, 1) := by decide +kernel
theorem d_MO_size_2 : decode b_MO_size 2 = .ok (.iconst 1, 1) := by decide +kernel
theorem d_MO_size_3 : decode b_MO_size 3 = .ok (.istore_n 3, 1) := by decide +kernel
theorem d_MO_size_4 : decode b_MO_size 4 = .ok (.iload_n 3, 1) := by decide +kernel
theorem d_MO_size_5 : decode b_MO_size 5 = .ok (.bipush 125, 2) := by decide +kernel
theorem d_MO_size_7 : decode b_MO_size 7 = .ok (.if_icmp .ge 32, 3) := by decide +kernel
theorem d_MO_size_10 : decode b_MO_size 10 = .ok (.iload_n 3, 1) := by decide +kernel
theorem d_MO_size_11 : decode b_MO_size 11 = .ok (.invokestatic 46, 3) := by decide +kernel
theorem d_MO_size_14 : decode b_MO_size 14 = .ok (.ifCond .eq 19, 3) := by decide +kernel
theorem d_MO_size_17 : decode b_MO_size 17 = .ok (.aload_n 0, 1) := by decide +kernel
theorem d_MO_size_18 : decode b_MO_size 18 = .ok (.iload_n 1, 1) := by decide +kernel
theorem d_MO_size_19 : decode b_MO_size 19 = .ok (.iload_n 3, 1) := by decide +kernel
theorem d_MO_size_20 : decode b_MO_size 20 = .ok (.invokevirtual 111, 3) := by decide +kernel
theorem d_MO_size_23 : decode b_MO_size 23 = .ok (.ldc2_w 107, 3) := by decide +kernel
theorem d_MO_size_26 : decode b_MO_size 26 = .ok (.lcmp, 1) := by decide +kernel
theorem d_MO_size_27 : decode b_MO_size 27 = .ok (.ifCond .eq 6, 3) := by decide +kernel
theorem d_MO_size_30 : decode b_MO_size 30 = .ok (.iinc 2 1, 3) := by decide +kernel
theorem d_MO_size_33 : decode b_MO_size 33 = .ok (.iinc 3 1, 3) := by decide +kernel
theorem d_MO_size_36 : decode b_MO_size 36 = .ok (.goto (-32), 3) := by decide +kernel
theorem d_MO_size_39 : decode b_MO_size 39 = .ok (.iload_n 2, 1) := by decide +kernel
theorem d_MO_size_40 : decode b_MO_size 40 = .ok (.ireturn, 1) := by decide +kernel
theorem d_MO_collect_0 : decode b_MO_collect 0 = .ok (.iload_n 1, 1) := by decide +kernel
theorem d_MO_collect_1 : decode b_MO_collect 1 = .ok (.ifCond .lt 8, 3) := by decide +kernel
theorem d_MO_collect_4 : decode b_MO_collect 4 = .ok (.iload_n 1, 1) := by decide +kernel
theorem d_MO_collect_5 : decode b_MO_collect 5 = .ok (.iconst 1, 1) := by decide +kernel
theorem d_MO_collect_6 : decode b_MO_collect 6 = .ok (.if_icmp .le 5, 3) := by decide +kernel
theorem d_MO_collect_9 : decode b_MO_collect 9 = .ok (.iconst (-1), 1) := by decide +kernel
theorem d_MO_collect_10 : decode b_MO_collect 10 = .ok (.ireturn, 1) := by decide +kernel
theorem d_MO_collect_11 : decode b_MO_collect 11 = .ok (.aload_n 0, 1) := by decide +kernel
theorem d_MO_collect_12 : decode b_MO_collect 12 = .ok (.iload_n 1, 1) := by decide +kernel
theorem d_MO_collect_13 : decode b_MO_collect 13 = .ok (.invokevirtual 136, 3) := by decide +kernel
theorem d_MO_collect_16 : decode b_MO_collect 16 = .ok (.aload_n 0, 1) := by decide +kernel
theorem d_MO_collect_17 : decode b_MO_collect 17 = .ok (.iconst 0, 1) := by decide +kernel
theorem d_MO_collect_18 : decode b_MO_collect 18 = .ok (.invokevirtual 139, 3) := by decide +kernel
theorem d_MO_collect_21 : decode b_MO_collect 21 = .ok (.istore_n 2, 1) := by decide +kernel
theorem d_MO_collect_22 : decode b_MO_collect 22 = .ok (.iconst 1, 1) := by decide +kernel
theorem d_MO_collect_23 : decode b_MO_collect 23 = .ok (.istore_n 3, 1) := by decide +kernel
theorem d_MO_collect_24 : decode b_MO_collect 24 = .ok (.iload_n 3, 1) := by decide +kernel
theorem d_MO_collect_25 : decode b_MO_collect 25 = .ok (.bipush 40, 2) := by decide +kernel
theorem d_MO_collect_27 : decode b_MO_collect 27 = .ok (.if_icmp .ge 21, 3) := by decide +kernel
theorem d_MO_collect_30 : decode b_MO_collect 30 = .ok (.aload_n 0, 1) := by decide +kernel
theorem d_MO_collect_31 : decode b_MO_collect 31 = .ok (.getfield 21, 3) := by decide +kernel
theorem d_MO_collect_34 : decode b_MO_collect 34 = .ok (.bipush 40, 2) := by decide +kernel
theorem d_MO_collect_36 : decode b_MO_collect 36 = .ok (.iload_n 1, 1) := by decide +kernel
theorem d_MO_collect_37 : decode b_MO_collect 37 = .ok (.imul, 1) := by decide +kernel
theorem d_MO_collect_38 : decode b_MO_collect 38 = .ok (.iload_n 3, 1) := by decide +kernel
theorem d_MO_collect_39 : decode b_MO_collect 39 = .ok (.iadd, 1) := by decide +kernel
theorem d_MO_collect_40 : decode b_MO_collect 40 = .ok (.iconst 0, 1) := by decide +kernel
theorem d_MO_collect_41 : decode b_MO_collect 41 = .ok (.bastore, 1) := by decide +kernel
theorem d_MO_collect_42 : decode b_MO_collect 42 = .ok (.iinc 3 1, 3) := by decide +kernel
theorem d_MO_collect_45 : decode b_MO_collect 45 = .ok (.goto (-21), 3) := by decide +kernel
theorem d_MO_collect_48 : decode b_MO_collect 48 = .ok (.iconst 0, 1) := by decide +kernel
theorem d_MO_collect_49 : decode b_MO_collect 49 = .ok (.istore_n 3, 1) := by decide +kernel
theorem d_MO_collect_50 : decode b_MO_collect 50 = .ok (.iload_n 3, 1) := by decide +kernel
theorem d_MO_collect_51 : decode b_MO_collect 51 = .ok (.bipush 6, 2) := by decide +kernel
theorem d_MO_collect_53 : decode b_MO_collect 53 = .ok (.if_icmp .ge 47, 3) := by decide +kernel
theorem d_MO_collect_56 : decode b_MO_collect 56 = .ok (.aload_n 0, 1) := by decide +kernel
theorem d_MO_collect_57 : decode b_MO_collect 57 = .ok (.getfield 25, 3) := by decide +kernel
theorem d_MO_collect_60 : decode b_MO_collect 60 = .ok (.bipush 6, 2) := by decide +kernel
theorem d_MO_collect_62 : decode b_MO_collect 62 = .ok (.iload_n 1, 1) := by decide +kernel
theorem d_MO_collect_63 : decode b_MO_collect 63 = .ok (.imul, 1) := by decide +kernel
theorem d_MO_collect_64 : decode b_MO_collect 64 = .ok (.iload_n 3, 1) := by decide +kernel
theorem d_MO_collect_65 : decode b_MO_collect 65 = .ok (.iadd, 1) := by decide +kernel
theorem d_MO_collect_66 : decode b_MO_collect 66 = .ok (.iaload, 1) := by decide +kernel
theorem d_MO_collect_67 : decode b_MO_collect 67 = .ok (.bipush 40, 2) := by decide +kernel
theorem d_MO_collect_69 : decode b_MO_collect 69 = .ok (.if_icmp .eq 25, 3) := by decide +kernel
theorem d_MO_collect_72 : decode b_MO_collect 72 = .ok (.aload_n 0, 1) := by decide +kernel
theorem d_MO_collect_73 : decode b_MO_collect 73 = .ok (.getfield 21, 3) := by decide +kernel
theorem d_MO_collect_76 : decode b_MO_collect 76 = .ok (.bipush 40, 2) := by decide +kernel
theorem d_MO_collect_78 : decode b_MO_collect 78 = .ok (.iload_n 1, 1) := by decide +kernel
theorem d_MO_collect_79 : decode b_MO_collect 79 = .ok (.imul, 1) := by decide +kernel
theorem d_MO_collect_80 : decode b_MO_collect 80 = .ok (.aload_n 0, 1) := by decide +kernel
theorem d_MO_collect_81 : decode b_MO_collect 81 = .ok (.getfield 25, 3) := by decide +kernel
theorem d_MO_collect_84 : decode b_MO_collect 84 = .ok (.bipush 6, 2) := by decide +kernel
theorem d_MO_collect_86 : decode b_MO_collect 86 = .ok (.iload_n 1, 1) := by decide +kernel
theorem d_MO_collect_87 : decode b_MO_collect 87 = .ok (.imul, 1) := by decide +kernel
theorem d_MO_collect_88 : decode b_MO_collect 88 = .ok (.iload_n 3, 1) := by decide +kernel
theorem d_MO_collect_89 : decode b_MO_collect 89 = .ok (.iadd, 1) := by decide +kernel
theorem d_MO_collect_90 : decode b_MO_collect 90 = .ok (.iaload, 1) := by decide +kernel
theorem d_MO_collect_91 : decode b_MO_collect 91 = .ok (.iadd, 1) := by decide +kernel
theorem d_MO_collect_92 : decode b_MO_collect 92 = .ok (.iconst 1, 1) := by decide +kernel
theorem d_MO_collect_93 : decode b_MO_collect 93 = .ok (.bastore, 1) := by decide +kernel
theorem d_MO_collect_94 : decode b_MO_collect 94 = .ok (.iinc 3 1, 3) := by decide +kernel
theorem d_MO_collect_97 : decode b_MO_collect 97 = .ok (.goto (-47), 3) := by decide +kernel
theorem d_MO_collect_100 : decode b_MO_collect 100 = .ok (.aload_n 0, 1) := by decide +kernel
theorem d_MO_collect_101 : decode b_MO_collect 101 = .ok (.iload_n 1, 1) := by decide +kernel
theorem d_MO_collect_102 : decode b_MO_collect 102 = .ok (.invokevirtual 136, 3) := by decide +kernel
theorem d_MO_collect_105 : decode b_MO_collect 105 = .ok (.iload_n 2, 1) := by decide +kernel
theorem d_MO_collect_106 : decode b_MO_collect 106 = .ok (.aload_n 0, 1) := by decide +kernel
theorem d_MO_collect_107 : decode b_MO_collect 107 = .ok (.iconst 0, 1) := by decide +kernel
theorem d_MO_collect_108 : decode b_MO_collect 108 = .ok (.invokevirtual 139, 3) := by decide +kernel
theorem d_MO_collect_111 : decode b_MO_collect 111 = .ok (.isub, 1) := by decide +kernel
theorem d_MO_collect_112 : decode b_MO_collect 112 = .ok (.ireturn, 1) := by decide +kernel
theorem d_MO_named_0 : decode b_MO_named 0 = .ok (.iload_n 1, 1) := by decide +kernel
theorem d_MO_named_1 : decode b_MO_named 1 = .ok (.iload_n 2, 1) := by decide +kernel
theorem d_MO_named_2 : decode b_MO_named 2 = .ok (.invokestatic 133, 3) := by decide +kernel
theorem d_MO_named_5 : decode b_MO_named 5 = .ok (.ifCond .eq 7, 3) := by decide +kernel
theorem d_MO_named_8 : decode b_MO_named 8 = .ok (.iconst (-1), 1) := by decide +kernel
theorem d_MO_named_9 : decode b_MO_named 9 = .ok (.goto 14, 3) := by decide +kernel
theorem d_MO_named_12 : decode b_MO_named 12 = .ok (.aload_n 0, 1) := by decide +kernel
theorem d_MO_named_13 : decode b_MO_named 13 = .ok (.getfield 25, 3) := by decide +kernel
theorem d_MO_named_16 : decode b_MO_named 16 = .ok (.bipush 6, 2) := by decide +kernel
theorem d_MO_named_18 : decode b_MO_named 18 = .ok (.iload_n 1, 1) := by decide +kernel
theorem d_MO_named_19 : decode b_MO_named 19 = .ok (.imul, 1) := by decide +kernel
theorem d_MO_named_20 : decode b_MO_named 20 = .ok (.iload_n 2, 1) := by decide +kernel
theorem d_MO_named_21 : decode b_MO_named 21 = .ok (.iadd, 1) := by decide +kernel
theorem d_MO_named_22 : decode b_MO_named 22 = .ok (.iaload, 1) := by decide +kernel
theorem d_MO_named_23 : decode b_MO_named 23 = .ok (.ireturn, 1) := by decide +kernel
theorem d_MO_held_0 : decode b_MO_held 0 = .ok (.iload_n 1, 1) := by decide +kernel
theorem d_MO_held_1 : decode b_MO_held 1 = .ok (.ifCond .lt 21, 3) := by decide +kernel
theorem d_MO_held_4 : decode b_MO_held 4 = .ok (.iload_n 1, 1) := by decide +kernel
theorem d_MO_held_5 : decode b_MO_held 5 = .ok (.iconst 1, 1) := by decide +kernel
theorem d_MO_held_6 : decode b_MO_held 6 = .ok (.if_icmp .gt 16, 3) := by decide +kernel
theorem d_MO_held_9 : decode b_MO_held 9 = .ok (.aload_n 0, 1) := by decide +kernel
theorem d_MO_held_10 : decode b_MO_held 10 = .ok (.iload_n 1, 1) := by decide +kernel
theorem d_MO_held_11 : decode b_MO_held 11 = .ok (.iload_n 2, 1) := by decide +kernel
theorem d_MO_held_12 : decode b_MO_held 12 = .ok (.invokevirtual 93, 3) := by decide +kernel
theorem d_MO_held_15 : decode b_MO_held 15 = .ok (.ifCond .eq 7, 3) := by decide +kernel
theorem d_MO_held_18 : decode b_MO_held 18 = .ok (.iconst 1, 1) := by decide +kernel
theorem d_MO_held_19 : decode b_MO_held 19 = .ok (.goto 4, 3) := by decide +kernel
theorem d_MO_held_22 : decode b_MO_held 22 = .ok (.iconst 0, 1) := by decide +kernel
theorem d_MO_held_23 : decode b_MO_held 23 = .ok (.ireturn, 1) := by decide +kernel
theorem d_MO_look_0 : decode b_MO_look 0 = .ok (.aload_n 0, 1) := by decide +kernel
theorem d_MO_look_1 : decode b_MO_look 1 = .ok (.iload_n 1, 1) := by decide +kernel
theorem d_MO_look_2 : decode b_MO_look 2 = .ok (.invokevirtual 50, 3) := by decide +kernel
theorem d_MO_look_5 : decode b_MO_look 5 = .ok (.ifCond .eq 13, 3) := by decide +kernel
theorem d_MO_look_8 : decode b_MO_look 8 = .ok (.iload_n 2, 1) := by decide +kernel
theorem d_MO_look_9 : decode b_MO_look 9 = .ok (.ifCond .lt 9, 3) := by decide +kernel
theorem d_MO_look_12 : decode b_MO_look 12 = .ok (.iload_n 2, 1) := by decide +kernel
theorem d_MO_look_13 : decode b_MO_look 13 = .ok (.bipush 124, 2) := by decide +kernel
theorem d_MO_look_15 : decode b_MO_look 15 = .ok (.if_icmp .le 9, 3) := by decide +kernel
theorem d_MO_look_18 : decode b_MO_look 18 = .ok (.ldc2_w 107, 3) := by decide +kernel
theorem d_MO_look_21 : decode b_MO_look 21 = .ok (.goto 14, 3) := by decide +kernel
theorem d_MO_look_24 : decode b_MO_look 24 = .ok (.aload_n 0, 1) := by decide +kernel
theorem d_MO_look_25 : decode b_MO_look 25 = .ok (.getfield 13, 3) := by decide +kernel
theorem d_MO_look_28 : decode b_MO_look 28 = .ok (.bipush 125, 2) := by decide +kernel
theorem d_MO_look_30 : decode b_MO_look 30 = .ok (.iload_n 1, 1) := by decide +kernel
theorem d_MO_look_31 : decode b_MO_look 31 = .ok (.imul, 1) := by decide +kernel
theorem d_MO_look_32 : decode b_MO_look 32 = .ok (.iload_n 2, 1) := by decide +kernel
theorem d_MO_look_33 : decode b_MO_look 33 = .ok (.iadd, 1) := by decide +kernel
theorem d_MO_look_34 : decode b_MO_look 34 = .ok (.laload, 1) := by decide +kernel
theorem d_MO_look_35 : decode b_MO_look 35 = .ok (.lreturn, 1) := by decide +kernel
theorem d_MO_next_0 : decode b_MO_next 0 = .ok (.aload_n 0, 1) := by decide +kernel
theorem d_MO_next_1 : decode b_MO_next 1 = .ok (.iload_n 1, 1) := by decide +kernel
theorem d_MO_next_2 : decode b_MO_next 2 = .ok (.invokevirtual 50, 3) := by decide +kernel
theorem d_MO_next_5 : decode b_MO_next 5 = .ok (.ifCond .eq 13, 3) := by decide +kernel
theorem d_MO_next_8 : decode b_MO_next 8 = .ok (.iload_n 2, 1) := by decide +kernel
theorem d_MO_next_9 : decode b_MO_next 9 = .ok (.ifCond .lt 9, 3) := by decide +kernel
theorem d_MO_next_12 : decode b_MO_next 12 = .ok (.iload_n 2, 1) := by decide +kernel
theorem d_MO_next_13 : decode b_MO_next 13 = .ok (.bipush 124, 2) := by decide +kernel
theorem d_MO_next_15 : decode b_MO_next 15 = .ok (.if_icmp .le 5, 3) := by decide +kernel
theorem d_MO_next_18 : decode b_MO_next 18 = .ok (.iconst (-1), 1) := by decide +kernel
theorem d_MO_next_19 : decode b_MO_next 19 = .ok (.ireturn, 1) := by decide +kernel
theorem d_MO_next_20 : decode b_MO_next 20 = .ok (.iload_n 2, 1) := by decide +kernel
theorem d_MO_next_21 : decode b_MO_next 21 = .ok (.iconst 1, 1) := by decide +kernel
theorem d_MO_next_22 : decode b_MO_next 22 = .ok (.iadd, 1) := by decide +kernel
theorem d_MO_next_23 : decode b_MO_next 23 = .ok (.istore_n 3, 1) := by decide +kernel
theorem d_MO_next_24 : decode b_MO_next 24 = .ok (.iload_n 3, 1) := by decide +kernel
theorem d_MO_next_25 : decode b_MO_next 25 = .ok (.bipush 125, 2) := by decide +kernel
theorem d_MO_next_27 : decode b_MO_next 27 = .ok (.if_icmp .ge 27, 3) := by decide +kernel
theorem d_MO_next_30 : decode b_MO_next 30 = .ok (.aload_n 0, 1) := by decide +kernel
theorem d_MO_next_31 : decode b_MO_next 31 = .ok (.getfield 13, 3) := by decide +kernel
theorem d_MO_next_34 : decode b_MO_next 34 = .ok (.bipush 125, 2) := by decide +kernel
theorem d_MO_next_36 : decode b_MO_next 36 = .ok (.iload_n 1, 1) := by decide +kernel
theorem d_MO_next_37 : decode b_MO_next 37 = .ok (.imul, 1) := by decide +kernel
theorem d_MO_next_38 : decode b_MO_next 38 = .ok (.iload_n 3, 1) := by decide +kernel
theorem d_MO_next_39 : decode b_MO_next 39 = .ok (.iadd, 1) := by decide +kernel
theorem d_MO_next_40 : decode b_MO_next 40 = .ok (.laload, 1) := by decide +kernel
theorem d_MO_next_41 : decode b_MO_next 41 = .ok (.ldc2_w 36, 3) := by decide +kernel
theorem d_MO_next_44 : decode b_MO_next 44 = .ok (.lcmp, 1) := by decide +kernel
theorem d_MO_next_45 : decode b_MO_next 45 = .ok (.ifCond .ne 9, 3) := by decide +kernel
theorem d_MO_next_48 : decode b_MO_next 48 = .ok (.iinc 3 1, 3) := by decide +kernel
theorem d_MO_next_51 : decode b_MO_next 51 = .ok (.goto (-27), 3) := by decide +kernel
theorem d_MO_next_54 : decode b_MO_next 54 = .ok (.iload_n 3, 1) := by decide +kernel
theorem d_MO_next_55 : decode b_MO_next 55 = .ok (.ireturn, 1) := by decide +kernel
theorem d_MO_layers_0 : decode b_MO_layers 0 = .ok (.aload_n 0, 1) := by decide +kernel
theorem d_MO_layers_1 : decode b_MO_layers 1 = .ok (.iload_n 1, 1) := by decide +kernel
theorem d_MO_layers_2 : decode b_MO_layers 2 = .ok (.invokevirtual 50, 3) := by decide +kernel
theorem d_MO_layers_5 : decode b_MO_layers 5 = .ok (.ifCond .eq 11, 3) := by decide +kernel
theorem d_MO_layers_8 : decode b_MO_layers 8 = .ok (.aload_n 0, 1) := by decide +kernel
theorem d_MO_layers_9 : decode b_MO_layers 9 = .ok (.iload_n 1, 1) := by decide +kernel
theorem d_MO_layers_10 : decode b_MO_layers 10 = .ok (.invokevirtual 115, 3) := by decide +kernel
theorem d_MO_layers_13 : decode b_MO_layers 13 = .ok (.goto 4, 3) := by decide +kernel
theorem d_MO_layers_16 : decode b_MO_layers 16 = .ok (.iconst (-1), 1) := by decide +kernel
theorem d_MO_layers_17 : decode b_MO_layers 17 = .ok (.ireturn, 1) := by decide +kernel
theorem d_MO_layerCount_0 : decode b_MO_layerCount 0 = .ok (.iconst 0, 1) := by decide +kernel
theorem d_MO_layerCount_1 : decode b_MO_layerCount 1 = .ok (.istore_n 2, 1) := by decide +kernel
theorem d_MO_layerCount_2 : decode b_MO_layerCount 2 = .ok (.iload_n 1, 1) := by decide +kernel
theorem d_MO_layerCount_3 : decode b_MO_layerCount 3 = .ok (.istore_n 3, 1) := by decide +kernel
theorem d_MO_layerCount_4 : decode b_MO_layerCount 4 = .ok (.iload_n 3, 1) := by decide +kernel
theorem d_MO_layerCount_5 : decode b_MO_layerCount 5 = .ok (.ifCond .eq 16, 3) := by decide +kernel
theorem d_MO_layerCount_8 : decode b_MO_layerCount 8 = .ok (.iinc 2 1, 3) := by decide +kernel
theorem d_MO_layerCount_11 : decode b_MO_layerCount 11 = .ok (.aload_n 0, 1) := by decide +kernel
theorem d_MO_layerCount_12 : decode b_MO_layerCount 12 = .ok (.getfield 7, 3) := by decide +kernel
theorem d_MO_layerCount_15 : decode b_MO_layerCount 15 = .ok (.iload_n 3, 1) := by decide +kernel
theorem d_MO_layerCount_16 : decode b_MO_layerCount 16 = .ok (.iaload, 1) := by decide +kernel
theorem d_MO_layerCount_17 : decode b_MO_layerCount 17 = .ok (.istore_n 3, 1) := by decide +kernel
theorem d_MO_layerCount_18 : decode b_MO_layerCount 18 = .ok (.goto (-14), 3) := by decide +kernel
theorem d_MO_layerCount_21 : decode b_MO_layerCount 21 = .ok (.iload_n 2, 1) := by decide +kernel
theorem d_MO_layerCount_22 : decode b_MO_layerCount 22 = .ok (.ireturn, 1) := by decide +kernel
theorem d_MO_entries_0 : decode b_MO_entries 0 = .ok (.aload_n 0, 1) := by decide +kernel
theorem d_MO_entries_1 : decode b_MO_entries 1 = .ok (.iload_n 1, 1) := by decide +kernel
theorem d_MO_entries_2 : decode b_MO_entries 2 = .ok (.invokevirtual 50, 3) := by decide +kernel
theorem d_MO_entries_5 : decode b_MO_entries 5 = .ok (.ifCond .eq 12, 3) := by decide +kernel
theorem d_MO_entries_8 : decode b_MO_entries 8 = .ok (.aload_n 0, 1) := by decide +kernel
theorem d_MO_entries_9 : decode b_MO_entries 9 = .ok (.iload_n 1, 1) := by decide +kernel
theorem d_MO_entries_10 : decode b_MO_entries 10 = .ok (.iload_n 2, 1) := by decide +kernel
theorem d_MO_entries_11 : decode b_MO_entries 11 = .ok (.invokevirtual 143, 3) := by decide +kernel
theorem d_MO_entries_14 : decode b_MO_entries 14 = .ok (.ifCond .ne 5, 3) := by decide +kernel
theorem d_MO_entries_17 : decode b_MO_entries 17 = .ok (.iconst (-1), 1) := by decide +kernel
theorem d_MO_entries_18 : decode b_MO_entries 18 = .ok (.ireturn, 1) := by decide +kernel
theorem d_MO_entries_19 : decode b_MO_entries 19 = .ok (.aload_n 0, 1) := by decide +kernel
theorem d_MO_entries_20 : decode b_MO_entries 20 = .ok (.aload_n 0, 1) := by decide +kernel
theorem d_MO_entries_21 : decode b_MO_entries 21 = .ok (.iload_n 1, 1) := by decide +kernel
theorem d_MO_entries_22 : decode b_MO_entries 22 = .ok (.iload_n 2, 1) := by decide +kernel
theorem d_MO_entries_23 : decode b_MO_entries 23 = .ok (.invokevirtual 143, 3) := by decide +kernel
theorem d_MO_entries_26 : decode b_MO_entries 26 = .ok (.invokevirtual 130, 3) := by decide +kernel
theorem d_MO_entries_29 : decode b_MO_entries 29 = .ok (.ireturn, 1) := by decide +kernel
theorem d_MO_owner_0 : decode b_MO_owner 0 = .ok (.aload_n 0, 1) := by decide +kernel
theorem d_MO_owner_1 : decode b_MO_owner 1 = .ok (.iload_n 1, 1) := by decide +kernel
theorem d_MO_owner_2 : decode b_MO_owner 2 = .ok (.invokevirtual 115, 3) := by decide +kernel
theorem d_MO_owner_5 : decode b_MO_owner 5 = .ok (.istore_n 3, 1) := by decide +kernel
theorem d_MO_owner_6 : decode b_MO_owner 6 = .ok (.iload_n 2, 1) := by decide +kernel
theorem d_MO_owner_7 : decode b_MO_owner 7 = .ok (.ifCond .lt 8, 3) := by decide +kernel
theorem d_MO_owner_10 : decode b_MO_owner 10 = .ok (.iload_n 2, 1) := by decide +kernel
theorem d_MO_owner_11 : decode b_MO_owner 11 = .ok (.iload_n 3, 1) := by decide +kernel
theorem d_MO_owner_12 : decode b_MO_owner 12 = .ok (.if_icmp .lt 5, 3) := by decide +kernel
theorem d_MO_owner_15 : decode b_MO_owner 15 = .ok (.iconst 0, 1) := by decide +kernel
theorem d_MO_owner_16 : decode b_MO_owner 16 = .ok (.ireturn, 1) := by decide +kernel
theorem d_MO_owner_17 : decode b_MO_owner 17 = .ok (.iload_n 1, 1) := by decide +kernel
theorem d_MO_owner_18 : decode b_MO_owner 18 = .ok (.istore 4, 2) := by decide +kernel
theorem d_MO_owner_20 : decode b_MO_owner 20 = .ok (.iload_n 3, 1) := by decide +kernel
theorem d_MO_owner_21 : decode b_MO_owner 21 = .ok (.iconst 1, 1) := by decide +kernel
theorem d_MO_owner_22 : decode b_MO_owner 22 = .ok (.isub, 1) := by decide +kernel
theorem d_MO_owner_23 : decode b_MO_owner 23 = .ok (.istore 5, 2) := by decide +kernel
theorem d_MO_owner_25 : decode b_MO_owner 25 = .ok (.iload 5, 2) := by decide +kernel
theorem d_MO_owner_27 : decode b_MO_owner 27 = .ok (.iload_n 2, 1) := by decide +kernel
theorem d_MO_owner_28 : decode b_MO_owner 28 = .ok (.if_icmp .le 18, 3) := by decide +kernel
theorem d_MO_owner_31 : decode b_MO_owner 31 = .ok (.aload_n 0, 1) := by decide +kernel
theorem d_MO_owner_32 : decode b_MO_owner 32 = .ok (.getfield 7, 3) := by decide +kernel
theorem d_MO_owner_35 : decode b_MO_owner 35 = .ok (.iload 4, 2) := by decide +kernel
theorem d_MO_owner_37 : decode b_MO_owner 37 = .ok (.iaload, 1) := by decide +kernel
theorem d_MO_owner_38 : decode b_MO_owner 38 = .ok (.istore 4, 2) := by decide +kernel
theorem d_MO_owner_40 : decode b_MO_owner 40 = .ok (.iinc 5 (-1), 3) := by decide +kernel
theorem d_MO_owner_43 : decode b_MO_owner 43 = .ok (.goto (-18), 3) := by decide +kernel
theorem d_MO_owner_46 : decode b_MO_owner 46 = .ok (.iload 4, 2) := by decide +kernel
theorem d_MO_owner_48 : decode b_MO_owner 48 = .ok (.ireturn, 1) := by decide +kernel
theorem d_MO_entryPath_0 : decode b_MO_entryPath 0 = .ok (.aload_n 0, 1) := by decide +kernel
theorem d_MO_entryPath_1 : decode b_MO_entryPath 1 = .ok (.iload_n 1, 1) := by decide +kernel
theorem d_MO_entryPath_2 : decode b_MO_entryPath 2 = .ok (.invokevirtual 50, 3) := by decide +kernel
theorem d_MO_entryPath_5 : decode b_MO_entryPath 5 = .ok (.ifCond .eq 16, 3) := by decide +kernel
theorem d_MO_entryPath_8 : decode b_MO_entryPath 8 = .ok (.aload_n 0, 1) := by decide +kernel
theorem d_MO_entryPath_9 : decode b_MO_entryPath 9 = .ok (.iload_n 1, 1) := by decide +kernel
theorem d_MO_entryPath_10 : decode b_MO_entryPath 10 = .ok (.iload_n 2, 1) := by decide +kernel
theorem d_MO_entryPath_11 : decode b_MO_entryPath 11 = .ok (.invokevirtual 143, 3) := by decide +kernel
theorem d_MO_entryPath_14 : decode b_MO_entryPath 14 = .ok (.ifCond .eq 7, 3) := by decide +kernel
theorem d_MO_entryPath_17 : decode b_MO_entryPath 17 = .ok (.iload_n 3, 1) := by decide +kernel
theorem d_MO_entryPath_18 : decode b_MO_entryPath 18 = .ok (.ifCond .ge 5, 3) := by decide +kernel
theorem d_MO_entryPath_21 : decode b_MO_entryPath 21 = .ok (.iconst (-1), 1) := by decide +kernel
theorem d_MO_entryPath_22 : decode b_MO_entryPath 22 = .ok (.ireturn, 1) := by decide +kernel
theorem d_MO_entryPath_23 : decode b_MO_entryPath 23 = .ok (.aload_n 0, 1) := by decide +kernel
theorem d_MO_entryPath_24 : decode b_MO_entryPath 24 = .ok (.iload_n 1, 1) := by decide +kernel
theorem d_MO_entryPath_25 : decode b_MO_entryPath 25 = .ok (.iload_n 2, 1) := by decide +kernel
theorem d_MO_entryPath_26 : decode b_MO_entryPath 26 = .ok (.invokevirtual 143, 3) := by decide +kernel
theorem d_MO_entryPath_29 : decode b_MO_entryPath 29 = .ok (.istore 4, 2) := by decide +kernel
theorem d_MO_entryPath_31 : decode b_MO_entryPath 31 = .ok (.iload_n 3, 1) := by decide +kernel
theorem d_MO_entryPath_32 : decode b_MO_entryPath 32 = .ok (.istore 5, 2) := by decide +kernel
theorem d_MO_entryPath_34 : decode b_MO_entryPath 34 = .ok (.iconst 1, 1) := by decide +kernel
theorem d_MO_entryPath_35 : decode b_MO_entryPath 35 = .ok (.istore 6, 2) := by decide +kernel
theorem d_MO_entryPath_37 : decode b_MO_entryPath 37 = .ok (.iload 6, 2) := by decide +kernel
theorem d_MO_entryPath_39 : decode b_MO_entryPath 39 = .ok (.bipush 125, 2) := by decide +kernel
theorem d_MO_entryPath_41 : decode b_MO_entryPath 41 = .ok (.if_icmp .ge 46, 3) := by decide +kernel
theorem d_MO_entryPath_44 : decode b_MO_entryPath 44 = .ok (.iload 6, 2) := by decide +kernel
theorem d_MO_entryPath_46 : decode b_MO_entryPath 46 = .ok (.invokestatic 46, 3) := by decide +kernel
theorem d_MO_entryPath_49 : decode b_MO_entryPath 49 = .ok (.ifCond .eq 32, 3) := by decide +kernel
theorem d_MO_entryPath_52 : decode b_MO_entryPath 52 = .ok (.aload_n 0, 1) := by decide +kernel
theorem d_MO_entryPath_53 : decode b_MO_entryPath 53 = .ok (.iload 4, 2) := by decide +kernel
end
section
theorem d_MO_entryPath_55 : decode b_MO_entryPath 55 = .ok (.iload 6, 2) := by decide +kernel
theorem d_MO_entryPath_57 : decode b_MO_entryPath 57 = .ok (.invokevirtual 111, 3) := by decide +kernel
theorem d_MO_entryPath_60 : decode b_MO_entryPath 60 = .ok (.ldc2_w 107, 3) := by decide +kernel
theorem d_MO_entryPath_63 : decode b_MO_entryPath 63 = .ok (.lcmp, 1) := by decide +kernel
theorem d_MO_entryPath_64 : decode b_MO_entryPath 64 = .ok (.ifCond .ne 6, 3) := by decide +kernel
theorem d_MO_entryPath_67 : decode b_MO_entryPath 67 = .ok (.goto 14, 3) := by decide +kernel
theorem d_MO_entryPath_70 : decode b_MO_entryPath 70 = .ok (.iload 5, 2) := by decide +kernel
theorem d_MO_entryPath_72 : decode b_MO_entryPath 72 = .ok (.ifCond .ne 6, 3) := by decide +kernel
theorem d_MO_entryPath_75 : decode b_MO_entryPath 75 = .ok (.iload 6, 2) := by decide +kernel
theorem d_MO_entryPath_77 : decode b_MO_entryPath 77 = .ok (.ireturn, 1) := by decide +kernel
theorem d_MO_entryPath_78 : decode b_MO_entryPath 78 = .ok (.iinc 5 (-1), 3) := by decide +kernel
theorem d_MO_entryPath_81 : decode b_MO_entryPath 81 = .ok (.iinc 6 1, 3) := by decide +kernel
theorem d_MO_entryPath_84 : decode b_MO_entryPath 84 = .ok (.goto (-47), 3) := by decide +kernel
theorem d_MO_entryPath_87 : decode b_MO_entryPath 87 = .ok (.iconst (-1), 1) := by decide +kernel
theorem d_MO_entryPath_88 : decode b_MO_entryPath 88 = .ok (.ireturn, 1) := by decide +kernel
theorem d_MO_entryMark_0 : decode b_MO_entryMark 0 = .ok (.aload_n 0, 1) := by decide +kernel
theorem d_MO_entryMark_1 : decode b_MO_entryMark 1 = .ok (.iload_n 1, 1) := by decide +kernel
theorem d_MO_entryMark_2 : decode b_MO_entryMark 2 = .ok (.iload_n 2, 1) := by decide +kernel
theorem d_MO_entryMark_3 : decode b_MO_entryMark 3 = .ok (.iload_n 3, 1) := by decide +kernel
theorem d_MO_entryMark_4 : decode b_MO_entryMark 4 = .ok (.invokevirtual 146, 3) := by decide +kernel
theorem d_MO_entryMark_7 : decode b_MO_entryMark 7 = .ok (.istore 4, 2) := by decide +kernel
theorem d_MO_entryMark_9 : decode b_MO_entryMark 9 = .ok (.iload 4, 2) := by decide +kernel
theorem d_MO_entryMark_11 : decode b_MO_entryMark 11 = .ok (.iconst (-1), 1) := by decide +kernel
theorem d_MO_entryMark_12 : decode b_MO_entryMark 12 = .ok (.if_icmp .ne 9, 3) := by decide +kernel
theorem d_MO_entryMark_15 : decode b_MO_entryMark 15 = .ok (.ldc2_w 107, 3) := by decide +kernel
theorem d_MO_entryMark_18 : decode b_MO_entryMark 18 = .ok (.goto 15, 3) := by decide +kernel
theorem d_MO_entryMark_21 : decode b_MO_entryMark 21 = .ok (.aload_n 0, 1) := by decide +kernel
theorem d_MO_entryMark_22 : decode b_MO_entryMark 22 = .ok (.aload_n 0, 1) := by decide +kernel
theorem d_MO_entryMark_23 : decode b_MO_entryMark 23 = .ok (.iload_n 1, 1) := by decide +kernel
theorem d_MO_entryMark_24 : decode b_MO_entryMark 24 = .ok (.iload_n 2, 1) := by decide +kernel
theorem d_MO_entryMark_25 : decode b_MO_entryMark 25 = .ok (.invokevirtual 143, 3) := by decide +kernel
theorem d_MO_entryMark_28 : decode b_MO_entryMark 28 = .ok (.iload 4, 2) := by decide +kernel
theorem d_MO_entryMark_30 : decode b_MO_entryMark 30 = .ok (.invokevirtual 111, 3) := by decide +kernel
theorem d_MO_entryMark_33 : decode b_MO_entryMark 33 = .ok (.lreturn, 1) := by decide +kernel
theorem d_MO_common_0 : decode b_MO_common 0 = .ok (.aload_n 0, 1) := by decide +kernel
theorem d_MO_common_1 : decode b_MO_common 1 = .ok (.iload_n 1, 1) := by decide +kernel
theorem d_MO_common_2 : decode b_MO_common 2 = .ok (.invokevirtual 50, 3) := by decide +kernel
theorem d_MO_common_5 : decode b_MO_common 5 = .ok (.ifCond .eq 11, 3) := by decide +kernel
theorem d_MO_common_8 : decode b_MO_common 8 = .ok (.aload_n 0, 1) := by decide +kernel
theorem d_MO_common_9 : decode b_MO_common 9 = .ok (.iload_n 2, 1) := by decide +kernel
theorem d_MO_common_10 : decode b_MO_common 10 = .ok (.invokevirtual 50, 3) := by decide +kernel
theorem d_MO_common_13 : decode b_MO_common 13 = .ok (.ifCond .ne 5, 3) := by decide +kernel
theorem d_MO_common_16 : decode b_MO_common 16 = .ok (.iconst (-1), 1) := by decide +kernel
theorem d_MO_common_17 : decode b_MO_common 17 = .ok (.ireturn, 1) := by decide +kernel
theorem d_MO_common_18 : decode b_MO_common 18 = .ok (.iconst 0, 1) := by decide +kernel
theorem d_MO_common_19 : decode b_MO_common 19 = .ok (.istore_n 3, 1) := by decide +kernel
theorem d_MO_common_20 : decode b_MO_common 20 = .ok (.aload_n 0, 1) := by decide +kernel
theorem d_MO_common_21 : decode b_MO_common 21 = .ok (.iload_n 1, 1) := by decide +kernel
theorem d_MO_common_22 : decode b_MO_common 22 = .ok (.iload_n 3, 1) := by decide +kernel
theorem d_MO_common_23 : decode b_MO_common 23 = .ok (.invokevirtual 143, 3) := by decide +kernel
theorem d_MO_common_26 : decode b_MO_common 26 = .ok (.ifCond .eq 37, 3) := by decide +kernel
theorem d_MO_common_29 : decode b_MO_common 29 = .ok (.aload_n 0, 1) := by decide +kernel
theorem d_MO_common_30 : decode b_MO_common 30 = .ok (.iload_n 2, 1) := by decide +kernel
theorem d_MO_common_31 : decode b_MO_common 31 = .ok (.iload_n 3, 1) := by decide +kernel
theorem d_MO_common_32 : decode b_MO_common 32 = .ok (.invokevirtual 143, 3) := by decide +kernel
theorem d_MO_common_35 : decode b_MO_common 35 = .ok (.ifCond .eq 28, 3) := by decide +kernel
theorem d_MO_common_38 : decode b_MO_common 38 = .ok (.aload_n 0, 1) := by decide +kernel
theorem d_MO_common_39 : decode b_MO_common 39 = .ok (.aload_n 0, 1) := by decide +kernel
theorem d_MO_common_40 : decode b_MO_common 40 = .ok (.iload_n 1, 1) := by decide +kernel
theorem d_MO_common_41 : decode b_MO_common 41 = .ok (.iload_n 3, 1) := by decide +kernel
theorem d_MO_common_42 : decode b_MO_common 42 = .ok (.invokevirtual 143, 3) := by decide +kernel
theorem d_MO_common_45 : decode b_MO_common 45 = .ok (.aload_n 0, 1) := by decide +kernel
theorem d_MO_common_46 : decode b_MO_common 46 = .ok (.iload_n 2, 1) := by decide +kernel
theorem d_MO_common_47 : decode b_MO_common 47 = .ok (.iload_n 3, 1) := by decide +kernel
theorem d_MO_common_48 : decode b_MO_common 48 = .ok (.invokevirtual 143, 3) := by decide +kernel
theorem d_MO_common_51 : decode b_MO_common 51 = .ok (.invokevirtual 124, 3) := by decide +kernel
theorem d_MO_common_54 : decode b_MO_common 54 = .ok (.ifCond .eq 9, 3) := by decide +kernel
theorem d_MO_common_57 : decode b_MO_common 57 = .ok (.iinc 3 1, 3) := by decide +kernel
theorem d_MO_common_60 : decode b_MO_common 60 = .ok (.goto (-40), 3) := by decide +kernel
theorem d_MO_common_63 : decode b_MO_common 63 = .ok (.iload_n 3, 1) := by decide +kernel
theorem d_MO_common_64 : decode b_MO_common 64 = .ok (.ireturn, 1) := by decide +kernel
theorem d_MO_shared_0 : decode b_MO_shared 0 = .ok (.aload_n 0, 1) := by decide +kernel
theorem d_MO_shared_1 : decode b_MO_shared 1 = .ok (.iload_n 1, 1) := by decide +kernel
theorem d_MO_shared_2 : decode b_MO_shared 2 = .ok (.invokevirtual 50, 3) := by decide +kernel
theorem d_MO_shared_5 : decode b_MO_shared 5 = .ok (.ifCond .eq 11, 3) := by decide +kernel
theorem d_MO_shared_8 : decode b_MO_shared 8 = .ok (.aload_n 0, 1) := by decide +kernel
theorem d_MO_shared_9 : decode b_MO_shared 9 = .ok (.iload_n 2, 1) := by decide +kernel
theorem d_MO_shared_10 : decode b_MO_shared 10 = .ok (.invokevirtual 50, 3) := by decide +kernel
theorem d_MO_shared_13 : decode b_MO_shared 13 = .ok (.ifCond .ne 5, 3) := by decide +kernel
theorem d_MO_shared_16 : decode b_MO_shared 16 = .ok (.iconst (-1), 1) := by decide +kernel
theorem d_MO_shared_17 : decode b_MO_shared 17 = .ok (.ireturn, 1) := by decide +kernel
theorem d_MO_shared_18 : decode b_MO_shared 18 = .ok (.aload_n 0, 1) := by decide +kernel
theorem d_MO_shared_19 : decode b_MO_shared 19 = .ok (.invokevirtual 118, 3) := by decide +kernel
theorem d_MO_shared_22 : decode b_MO_shared 22 = .ok (.aload_n 0, 1) := by decide +kernel
theorem d_MO_shared_23 : decode b_MO_shared 23 = .ok (.iload_n 2, 1) := by decide +kernel
theorem d_MO_shared_24 : decode b_MO_shared 24 = .ok (.invokevirtual 121, 3) := by decide +kernel
theorem d_MO_shared_27 : decode b_MO_shared 27 = .ok (.iconst 0, 1) := by decide +kernel
theorem d_MO_shared_28 : decode b_MO_shared 28 = .ok (.istore_n 3, 1) := by decide +kernel
theorem d_MO_shared_29 : decode b_MO_shared 29 = .ok (.iload_n 1, 1) := by decide +kernel
theorem d_MO_shared_30 : decode b_MO_shared 30 = .ok (.istore 4, 2) := by decide +kernel
theorem d_MO_shared_32 : decode b_MO_shared 32 = .ok (.iload 4, 2) := by decide +kernel
theorem d_MO_shared_34 : decode b_MO_shared 34 = .ok (.ifCond .eq 31, 3) := by decide +kernel
theorem d_MO_shared_37 : decode b_MO_shared 37 = .ok (.aload_n 0, 1) := by decide +kernel
theorem d_MO_shared_38 : decode b_MO_shared 38 = .ok (.iload 4, 2) := by decide +kernel
theorem d_MO_shared_40 : decode b_MO_shared 40 = .ok (.aload_n 0, 1) := by decide +kernel
theorem d_MO_shared_41 : decode b_MO_shared 41 = .ok (.getfield 17, 3) := by decide +kernel
theorem d_MO_shared_44 : decode b_MO_shared 44 = .ok (.invokevirtual 127, 3) := by decide +kernel
theorem d_MO_shared_47 : decode b_MO_shared 47 = .ok (.ifCond .eq 6, 3) := by decide +kernel
theorem d_MO_shared_50 : decode b_MO_shared 50 = .ok (.iinc 3 1, 3) := by decide +kernel
theorem d_MO_shared_53 : decode b_MO_shared 53 = .ok (.aload_n 0, 1) := by decide +kernel
theorem d_MO_shared_54 : decode b_MO_shared 54 = .ok (.getfield 7, 3) := by decide +kernel
theorem d_MO_shared_57 : decode b_MO_shared 57 = .ok (.iload 4, 2) := by decide +kernel
theorem d_MO_shared_59 : decode b_MO_shared 59 = .ok (.iaload, 1) := by decide +kernel
theorem d_MO_shared_60 : decode b_MO_shared 60 = .ok (.istore 4, 2) := by decide +kernel
theorem d_MO_shared_62 : decode b_MO_shared 62 = .ok (.goto (-30), 3) := by decide +kernel
theorem d_MO_shared_65 : decode b_MO_shared 65 = .ok (.iload_n 3, 1) := by decide +kernel
theorem d_MO_shared_66 : decode b_MO_shared 66 = .ok (.ireturn, 1) := by decide +kernel
theorem d_MO_count_0 : decode b_MO_count 0 = .ok (.iload_n 1, 1) := by decide +kernel
theorem d_MO_count_1 : decode b_MO_count 1 = .ok (.ifCond .ne 8, 3) := by decide +kernel
theorem d_MO_count_4 : decode b_MO_count 4 = .ok (.aload_n 0, 1) := by decide +kernel
theorem d_MO_count_5 : decode b_MO_count 5 = .ok (.getfield 17, 3) := by decide +kernel
theorem d_MO_count_8 : decode b_MO_count 8 = .ok (.ireturn, 1) := by decide +kernel
theorem d_MO_count_9 : decode b_MO_count 9 = .ok (.iload_n 1, 1) := by decide +kernel
theorem d_MO_count_10 : decode b_MO_count 10 = .ok (.iconst 5, 1) := by decide +kernel
theorem d_MO_count_11 : decode b_MO_count 11 = .ok (.if_icmp .ne 8, 3) := by decide +kernel
theorem d_MO_count_14 : decode b_MO_count 14 = .ok (.aload_n 0, 1) := by decide +kernel
theorem d_MO_count_15 : decode b_MO_count 15 = .ok (.getfield 84, 3) := by decide +kernel
theorem d_MO_count_18 : decode b_MO_count 18 = .ok (.ireturn, 1) := by decide +kernel
theorem d_MO_count_19 : decode b_MO_count 19 = .ok (.iload_n 1, 1) := by decide +kernel
theorem d_MO_count_20 : decode b_MO_count 20 = .ok (.ifCond .lt 8, 3) := by decide +kernel
theorem d_MO_count_23 : decode b_MO_count 23 = .ok (.iload_n 1, 1) := by decide +kernel
theorem d_MO_count_24 : decode b_MO_count 24 = .ok (.iconst 5, 1) := by decide +kernel
theorem d_MO_count_25 : decode b_MO_count 25 = .ok (.if_icmp .le 5, 3) := by decide +kernel
theorem d_MO_count_28 : decode b_MO_count 28 = .ok (.iconst (-1), 1) := by decide +kernel
theorem d_MO_count_29 : decode b_MO_count 29 = .ok (.ireturn, 1) := by decide +kernel
theorem d_MO_count_30 : decode b_MO_count 30 = .ok (.aload_n 0, 1) := by decide +kernel
theorem d_MO_count_31 : decode b_MO_count 31 = .ok (.iload_n 1, 1) := by decide +kernel
theorem d_MO_count_32 : decode b_MO_count 32 = .ok (.iconst 1, 1) := by decide +kernel
theorem d_MO_count_33 : decode b_MO_count 33 = .ok (.isub, 1) := by decide +kernel
theorem d_MO_count_34 : decode b_MO_count 34 = .ok (.iconst 2, 1) := by decide +kernel
theorem d_MO_count_35 : decode b_MO_count 35 = .ok (.irem, 1) := by decide +kernel
theorem d_MO_count_36 : decode b_MO_count 36 = .ok (.invokevirtual 136, 3) := by decide +kernel
theorem d_MO_count_39 : decode b_MO_count 39 = .ok (.aload_n 0, 1) := by decide +kernel
theorem d_MO_count_40 : decode b_MO_count 40 = .ok (.iload_n 1, 1) := by decide +kernel
theorem d_MO_count_41 : decode b_MO_count 41 = .ok (.iconst 2, 1) := by decide +kernel
theorem d_MO_count_42 : decode b_MO_count 42 = .ok (.if_icmp .le 7, 3) := by decide +kernel
theorem d_MO_count_45 : decode b_MO_count 45 = .ok (.iconst 1, 1) := by decide +kernel
theorem d_MO_count_46 : decode b_MO_count 46 = .ok (.goto 4, 3) := by decide +kernel
theorem d_MO_count_49 : decode b_MO_count 49 = .ok (.iconst 0, 1) := by decide +kernel
theorem d_MO_count_50 : decode b_MO_count 50 = .ok (.invokevirtual 139, 3) := by decide +kernel
theorem d_MO_count_53 : decode b_MO_count 53 = .ok (.ireturn, 1) := by decide +kernel
theorem d_LW_law_0 : decode b_LW_law 0 = .ok (.new 7, 3) := by decide +kernel
theorem d_LW_law_3 : decode b_LW_law 3 = .ok (.dup, 1) := by decide +kernel
theorem d_LW_law_4 : decode b_LW_law 4 = .ok (.invokespecial 9, 3) := by decide +kernel
theorem d_LW_law_7 : decode b_LW_law 7 = .ok (.astore_n 1, 1) := by decide +kernel
theorem d_LW_law_8 : decode b_LW_law 8 = .ok (.new 10, 3) := by decide +kernel
theorem d_LW_law_11 : decode b_LW_law 11 = .ok (.dup, 1) := by decide +kernel
theorem d_LW_law_12 : decode b_LW_law 12 = .ok (.invokespecial 12, 3) := by decide +kernel
theorem d_LW_law_15 : decode b_LW_law 15 = .ok (.astore_n 2, 1) := by decide +kernel
theorem d_LW_law_16 : decode b_LW_law 16 = .ok (.iconst 0, 1) := by decide +kernel
theorem d_LW_law_17 : decode b_LW_law 17 = .ok (.istore_n 3, 1) := by decide +kernel
theorem d_LW_law_18 : decode b_LW_law 18 = .ok (.iload_n 3, 1) := by decide +kernel
theorem d_LW_law_19 : decode b_LW_law 19 = .ok (.aload_n 0, 1) := by decide +kernel
theorem d_LW_law_20 : decode b_LW_law 20 = .ok (.arraylength, 1) := by decide +kernel
theorem d_LW_law_21 : decode b_LW_law 21 = .ok (.iconst 5, 1) := by decide +kernel
theorem d_LW_law_22 : decode b_LW_law 22 = .ok (.isub, 1) := by decide +kernel
theorem d_LW_law_23 : decode b_LW_law 23 = .ok (.if_icmp .gt 672, 3) := by decide +kernel
theorem d_LW_law_26 : decode b_LW_law 26 = .ok (.aload_n 0, 1) := by decide +kernel
theorem d_LW_law_27 : decode b_LW_law 27 = .ok (.iload_n 3, 1) := by decide +kernel
theorem d_LW_law_28 : decode b_LW_law 28 = .ok (.iaload, 1) := by decide +kernel
theorem d_LW_law_29 : decode b_LW_law 29 = .ok (.bipush 31, 2) := by decide +kernel
theorem d_LW_law_31 : decode b_LW_law 31 = .ok (.iand, 1) := by decide +kernel
theorem d_LW_law_32 : decode b_LW_law 32 = .ok (.tableswitch 657 0 16 #[84, 137, 160, 203, 236, 269, 292, 325, 358, 392, 425, 448, 481, 524, 568, 601, 634], 84) := by decide +kernel
theorem d_LW_law_116 : decode b_LW_law 116 = .ok (.aload_n 1, 1) := by decide +kernel
theorem d_LW_law_117 : decode b_LW_law 117 = .ok (.aload_n 0, 1) := by decide +kernel
theorem d_LW_law_118 : decode b_LW_law 118 = .ok (.iload_n 3, 1) := by decide +kernel
theorem d_LW_law_119 : decode b_LW_law 119 = .ok (.iconst 1, 1) := by decide +kernel
theorem d_LW_law_120 : decode b_LW_law 120 = .ok (.iadd, 1) := by decide +kernel
theorem d_LW_law_121 : decode b_LW_law 121 = .ok (.iaload, 1) := by decide +kernel
theorem d_LW_law_122 : decode b_LW_law 122 = .ok (.aload_n 0, 1) := by decide +kernel
theorem d_LW_law_123 : decode b_LW_law 123 = .ok (.iload_n 3, 1) := by decide +kernel
theorem d_LW_law_124 : decode b_LW_law 124 = .ok (.iconst 2, 1) := by decide +kernel
theorem d_LW_law_125 : decode b_LW_law 125 = .ok (.iadd, 1) := by decide +kernel
theorem d_LW_law_126 : decode b_LW_law 126 = .ok (.iaload, 1) := by decide +kernel
theorem d_LW_law_127 : decode b_LW_law 127 = .ok (.aload_n 0, 1) := by decide +kernel
theorem d_LW_law_128 : decode b_LW_law 128 = .ok (.iload_n 3, 1) := by decide +kernel
theorem d_LW_law_129 : decode b_LW_law 129 = .ok (.iconst 3, 1) := by decide +kernel
theorem d_LW_law_130 : decode b_LW_law 130 = .ok (.iadd, 1) := by decide +kernel
theorem d_LW_law_131 : decode b_LW_law 131 = .ok (.iaload, 1) := by decide +kernel
theorem d_LW_law_132 : decode b_LW_law 132 = .ok (.aload_n 0, 1) := by decide +kernel
theorem d_LW_law_133 : decode b_LW_law 133 = .ok (.iload_n 3, 1) := by decide +kernel
theorem d_LW_law_134 : decode b_LW_law 134 = .ok (.iconst 4, 1) := by decide +kernel
theorem d_LW_law_135 : decode b_LW_law 135 = .ok (.iadd, 1) := by decide +kernel
theorem d_LW_law_136 : decode b_LW_law 136 = .ok (.iaload, 1) := by decide +kernel
theorem d_LW_law_137 : decode b_LW_law 137 = .ok (.invokevirtual 13, 3) := by decide +kernel
theorem d_LW_law_140 : decode b_LW_law 140 = .ok (.aload_n 2, 1) := by decide +kernel
theorem d_LW_law_141 : decode b_LW_law 141 = .ok (.aload_n 0, 1) := by decide +kernel
theorem d_LW_law_142 : decode b_LW_law 142 = .ok (.iload_n 3, 1) := by decide +kernel
theorem d_LW_law_143 : decode b_LW_law 143 = .ok (.iconst 1, 1) := by decide +kernel
theorem d_LW_law_144 : decode b_LW_law 144 = .ok (.iadd, 1) := by decide +kernel
theorem d_LW_law_145 : decode b_LW_law 145 = .ok (.iaload, 1) := by decide +kernel
theorem d_LW_law_146 : decode b_LW_law 146 = .ok (.aload_n 0, 1) := by decide +kernel
theorem d_LW_law_147 : decode b_LW_law 147 = .ok (.iload_n 3, 1) := by decide +kernel
theorem d_LW_law_148 : decode b_LW_law 148 = .ok (.iconst 2, 1) := by decide +kernel
theorem d_LW_law_149 : decode b_LW_law 149 = .ok (.iadd, 1) := by decide +kernel
theorem d_LW_law_150 : decode b_LW_law 150 = .ok (.iaload, 1) := by decide +kernel
theorem d_LW_law_151 : decode b_LW_law 151 = .ok (.aload_n 0, 1) := by decide +kernel
theorem d_LW_law_152 : decode b_LW_law 152 = .ok (.iload_n 3, 1) := by decide +kernel
theorem d_LW_law_153 : decode b_LW_law 153 = .ok (.iconst 3, 1) := by decide +kernel
theorem d_LW_law_154 : decode b_LW_law 154 = .ok (.iadd, 1) := by decide +kernel
theorem d_LW_law_155 : decode b_LW_law 155 = .ok (.iaload, 1) := by decide +kernel
theorem d_LW_law_156 : decode b_LW_law 156 = .ok (.aload_n 0, 1) := by decide +kernel
theorem d_LW_law_157 : decode b_LW_law 157 = .ok (.iload_n 3, 1) := by decide +kernel
theorem d_LW_law_158 : decode b_LW_law 158 = .ok (.iconst 4, 1) := by decide +kernel
theorem d_LW_law_159 : decode b_LW_law 159 = .ok (.iadd, 1) := by decide +kernel
theorem d_LW_law_160 : decode b_LW_law 160 = .ok (.iaload, 1) := by decide +kernel
theorem d_LW_law_161 : decode b_LW_law 161 = .ok (.invokevirtual 17, 3) := by decide +kernel
theorem d_LW_law_164 : decode b_LW_law 164 = .ok (.if_icmp .eq 525, 3) := by decide +kernel
theorem d_LW_law_167 : decode b_LW_law 167 = .ok (.iconst 0, 1) := by decide +kernel
theorem d_LW_law_168 : decode b_LW_law 168 = .ok (.ireturn, 1) := by decide +kernel
theorem d_LW_law_169 : decode b_LW_law 169 = .ok (.aload_n 1, 1) := by decide +kernel
theorem d_LW_law_170 : decode b_LW_law 170 = .ok (.aload_n 0, 1) := by decide +kernel
theorem d_LW_law_171 : decode b_LW_law 171 = .ok (.iload_n 3, 1) := by decide +kernel
theorem d_LW_law_172 : decode b_LW_law 172 = .ok (.iconst 1, 1) := by decide +kernel
theorem d_LW_law_173 : decode b_LW_law 173 = .ok (.iadd, 1) := by decide +kernel
theorem d_LW_law_174 : decode b_LW_law 174 = .ok (.iaload, 1) := by decide +kernel
theorem d_LW_law_175 : decode b_LW_law 175 = .ok (.invokevirtual 18, 3) := by decide +kernel
theorem d_LW_law_178 : decode b_LW_law 178 = .ok (.aload_n 2, 1) := by decide +kernel
theorem d_LW_law_179 : decode b_LW_law 179 = .ok (.aload_n 0, 1) := by decide +kernel
theorem d_LW_law_180 : decode b_LW_law 180 = .ok (.iload_n 3, 1) := by decide +kernel
theorem d_LW_law_181 : decode b_LW_law 181 = .ok (.iconst 1, 1) := by decide +kernel
theorem d_LW_law_182 : decode b_LW_law 182 = .ok (.iadd, 1) := by decide +kernel
theorem d_LW_law_183 : decode b_LW_law 183 = .ok (.iaload, 1) := by decide +kernel
theorem d_LW_law_184 : decode b_LW_law 184 = .ok (.invokevirtual 22, 3) := by decide +kernel
theorem d_LW_law_187 : decode b_LW_law 187 = .ok (.if_icmp .eq 502, 3) := by decide +kernel
theorem d_LW_law_190 : decode b_LW_law 190 = .ok (.iconst 0, 1) := by decide +kernel
theorem d_LW_law_191 : decode b_LW_law 191 = .ok (.ireturn, 1) := by decide +kernel
theorem d_LW_law_192 : decode b_LW_law 192 = .ok (.aload_n 1, 1) := by decide +kernel
theorem d_LW_law_193 : decode b_LW_law 193 = .ok (.aload_n 0, 1) := by decide +kernel
theorem d_LW_law_194 : decode b_LW_law 194 = .ok (.iload_n 3, 1) := by decide +kernel
theorem d_LW_law_195 : decode b_LW_law 195 = .ok (.iconst 1, 1) := by decide +kernel
theorem d_LW_law_196 : decode b_LW_law 196 = .ok (.iadd, 1) := by decide +kernel
theorem d_LW_law_197 : decode b_LW_law 197 = .ok (.iaload, 1) := by decide +kernel
theorem d_LW_law_198 : decode b_LW_law 198 = .ok (.aload_n 0, 1) := by decide +kernel
theorem d_LW_law_199 : decode b_LW_law 199 = .ok (.iload_n 3, 1) := by decide +kernel
theorem d_LW_law_200 : decode b_LW_law 200 = .ok (.iconst 2, 1) := by decide +kernel
theorem d_LW_law_201 : decode b_LW_law 201 = .ok (.iadd, 1) := by decide +kernel
theorem d_LW_law_202 : decode b_LW_law 202 = .ok (.iaload, 1) := by decide +kernel
theorem d_LW_law_203 : decode b_LW_law 203 = .ok (.aload_n 0, 1) := by decide +kernel
theorem d_LW_law_204 : decode b_LW_law 204 = .ok (.iload_n 3, 1) := by decide +kernel
theorem d_LW_law_205 : decode b_LW_law 205 = .ok (.iconst 3, 1) := by decide +kernel
theorem d_LW_law_206 : decode b_LW_law 206 = .ok (.iadd, 1) := by decide +kernel
theorem d_LW_law_207 : decode b_LW_law 207 = .ok (.iaload, 1) := by decide +kernel
theorem d_LW_law_208 : decode b_LW_law 208 = .ok (.invokevirtual 23, 3) := by decide +kernel
theorem d_LW_law_211 : decode b_LW_law 211 = .ok (.aload_n 2, 1) := by decide +kernel
theorem d_LW_law_212 : decode b_LW_law 212 = .ok (.aload_n 0, 1) := by decide +kernel
theorem d_LW_law_213 : decode b_LW_law 213 = .ok (.iload_n 3, 1) := by decide +kernel
theorem d_LW_law_214 : decode b_LW_law 214 = .ok (.iconst 1, 1) := by decide +kernel
theorem d_LW_law_215 : decode b_LW_law 215 = .ok (.iadd, 1) := by decide +kernel
theorem d_LW_law_216 : decode b_LW_law 216 = .ok (.iaload, 1) := by decide +kernel
theorem d_LW_law_217 : decode b_LW_law 217 = .ok (.aload_n 0, 1) := by decide +kernel
theorem d_LW_law_218 : decode b_LW_law 218 = .ok (.iload_n 3, 1) := by decide +kernel
theorem d_LW_law_219 : decode b_LW_law 219 = .ok (.iconst 2, 1) := by decide +kernel
theorem d_LW_law_220 : decode b_LW_law 220 = .ok (.iadd, 1) := by decide +kernel
theorem d_LW_law_221 : decode b_LW_law 221 = .ok (.iaload, 1) := by decide +kernel
theorem d_LW_law_222 : decode b_LW_law 222 = .ok (.aload_n 0, 1) := by decide +kernel
theorem d_LW_law_223 : decode b_LW_law 223 = .ok (.iload_n 3, 1) := by decide +kernel
theorem d_LW_law_224 : decode b_LW_law 224 = .ok (.iconst 3, 1) := by decide +kernel
theorem d_LW_law_225 : decode b_LW_law 225 = .ok (.iadd, 1) := by decide +kernel
theorem d_LW_law_226 : decode b_LW_law 226 = .ok (.iaload, 1) := by decide +kernel
theorem d_LW_law_227 : decode b_LW_law 227 = .ok (.invokevirtual 27, 3) := by decide +kernel
theorem d_LW_law_230 : decode b_LW_law 230 = .ok (.if_icmp .eq 459, 3) := by decide +kernel
theorem d_LW_law_233 : decode b_LW_law 233 = .ok (.iconst 0, 1) := by decide +kernel
theorem d_LW_law_234 : decode b_LW_law 234 = .ok (.ireturn, 1) := by decide +kernel
theorem d_LW_law_235 : decode b_LW_law 235 = .ok (.aload_n 1, 1) := by decide +kernel
theorem d_LW_law_236 : decode b_LW_law 236 = .ok (.aload_n 0, 1) := by decide +kernel
theorem d_LW_law_237 : decode b_LW_law 237 = .ok (.iload_n 3, 1) := by decide +kernel
theorem d_LW_law_238 : decode b_LW_law 238 = .ok (.iconst 1, 1) := by decide +kernel
theorem d_LW_law_239 : decode b_LW_law 239 = .ok (.iadd, 1) := by decide +kernel
theorem d_LW_law_240 : decode b_LW_law 240 = .ok (.iaload, 1) := by decide +kernel
theorem d_LW_law_241 : decode b_LW_law 241 = .ok (.aload_n 0, 1) := by decide +kernel
theorem d_LW_law_242 : decode b_LW_law 242 = .ok (.iload_n 3, 1) := by decide +kernel
theorem d_LW_law_243 : decode b_LW_law 243 = .ok (.iconst 2, 1) := by decide +kernel
theorem d_LW_law_244 : decode b_LW_law 244 = .ok (.iadd, 1) := by decide +kernel
theorem d_LW_law_245 : decode b_LW_law 245 = .ok (.iaload, 1) := by decide +kernel
theorem d_LW_law_246 : decode b_LW_law 246 = .ok (.invokevirtual 28, 3) := by decide +kernel
theorem d_LW_law_249 : decode b_LW_law 249 = .ok (.aload_n 2, 1) := by decide +kernel
theorem d_LW_law_250 : decode b_LW_law 250 = .ok (.aload_n 0, 1) := by decide +kernel
theorem d_LW_law_251 : decode b_LW_law 251 = .ok (.iload_n 3, 1) := by decide +kernel
theorem d_LW_law_252 : decode b_LW_law 252 = .ok (.iconst 1, 1) := by decide +kernel
theorem d_LW_law_253 : decode b_LW_law 253 = .ok (.iadd, 1) := by decide +kernel
theorem d_LW_law_254 : decode b_LW_law 254 = .ok (.iaload, 1) := by decide +kernel
theorem d_LW_law_255 : decode b_LW_law 255 = .ok (.aload_n 0, 1) := by decide +kernel
theorem d_LW_law_256 : decode b_LW_law 256 = .ok (.iload_n 3, 1) := by decide +kernel
theorem d_LW_law_257 : decode b_LW_law 257 = .ok (.iconst 2, 1) := by decide +kernel
theorem d_LW_law_258 : decode b_LW_law 258 = .ok (.iadd, 1) := by decide +kernel
theorem d_LW_law_259 : decode b_LW_law 259 = .ok (.iaload, 1) := by decide +kernel
theorem d_LW_law_260 : decode b_LW_law 260 = .ok (.invokevirtual 32, 3) := by decide +kernel
theorem d_LW_law_263 : decode b_LW_law 263 = .ok (.if_icmp .eq 426, 3) := by decide +kernel
theorem d_LW_law_266 : decode b_LW_law 266 = .ok (.iconst 0, 1) := by decide +kernel
theorem d_LW_law_267 : decode b_LW_law 267 = .ok (.ireturn, 1) := by decide +kernel
theorem d_LW_law_268 : decode b_LW_law 268 = .ok (.aload_n 1, 1) := by decide +kernel
theorem d_LW_law_269 : decode b_LW_law 269 = .ok (.aload_n 0, 1) := by decide +kernel
theorem d_LW_law_270 : decode b_LW_law 270 = .ok (.iload_n 3, 1) := by decide +kernel
theorem d_LW_law_271 : decode b_LW_law 271 = .ok (.iconst 1, 1) := by decide +kernel
theorem d_LW_law_272 : decode b_LW_law 272 = .ok (.iadd, 1) := by decide +kernel
theorem d_LW_law_273 : decode b_LW_law 273 = .ok (.iaload, 1) := by decide +kernel
theorem d_LW_law_274 : decode b_LW_law 274 = .ok (.aload_n 0, 1) := by decide +kernel
theorem d_LW_law_275 : decode b_LW_law 275 = .ok (.iload_n 3, 1) := by decide +kernel
theorem d_LW_law_276 : decode b_LW_law 276 = .ok (.iconst 2, 1) := by decide +kernel
theorem d_LW_law_277 : decode b_LW_law 277 = .ok (.iadd, 1) := by decide +kernel
theorem d_LW_law_278 : decode b_LW_law 278 = .ok (.iaload, 1) := by decide +kernel
theorem d_LW_law_279 : decode b_LW_law 279 = .ok (.invokevirtual 33, 3) := by decide +kernel
theorem d_LW_law_282 : decode b_LW_law 282 = .ok (.aload_n 2, 1) := by decide +kernel
theorem d_LW_law_283 : decode b_LW_law 283 = .ok (.aload_n 0, 1) := by decide +kernel
theorem d_LW_law_284 : decode b_LW_law 284 = .ok (.iload_n 3, 1) := by decide +kernel
theorem d_LW_law_285 : decode b_LW_law 285 = .ok (.iconst 1, 1) := by decide +kernel
theorem d_LW_law_286 : decode b_LW_law 286 = .ok (.iadd, 1) := by decide +kernel
theorem d_LW_law_287 : decode b_LW_law 287 = .ok (.iaload, 1) := by decide +kernel
theorem d_LW_law_288 : decode b_LW_law 288 = .ok (.aload_n 0, 1) := by decide +kernel
theorem d_LW_law_289 : decode b_LW_law 289 = .ok (.iload_n 3, 1) := by decide +kernel
theorem d_LW_law_290 : decode b_LW_law 290 = .ok (.iconst 2, 1) := by decide +kernel
theorem d_LW_law_291 : decode b_LW_law 291 = .ok (.iadd, 1) := by decide +kernel
theorem d_LW_law_292 : decode b_LW_law 292 = .ok (.iaload, 1) := by decide +kernel
theorem d_LW_law_293 : decode b_LW_law 293 = .ok (.invokevirtual 36, 3) := by decide +kernel
theorem d_LW_law_296 : decode b_LW_law 296 = .ok (.if_icmp .eq 393, 3) := by decide +kernel
theorem d_LW_law_299 : decode b_LW_law 299 = .ok (.iconst 0, 1) := by decide +kernel
theorem d_LW_law_300 : decode b_LW_law 300 = .ok (.ireturn, 1) := by decide +kernel
theorem d_LW_law_301 : decode b_LW_law 301 = .ok (.aload_n 1, 1) := by decide +kernel
theorem d_LW_law_302 : decode b_LW_law 302 = .ok (.aload_n 0, 1) := by decide +kernel
theorem d_LW_law_303 : decode b_LW_law 303 = .ok (.iload_n 3, 1) := by decide +kernel
theorem d_LW_law_304 : decode b_LW_law 304 = .ok (.iconst 1, 1) := by decide +kernel
theorem d_LW_law_305 : decode b_LW_law 305 = .ok (.iadd, 1) := by decide +kernel
theorem d_LW_law_306 : decode b_LW_law 306 = .ok (.iaload, 1) := by decide +kernel
theorem d_LW_law_307 : decode b_LW_law 307 = .ok (.invokevirtual 37, 3) := by decide +kernel
theorem d_LW_law_310 : decode b_LW_law 310 = .ok (.aload_n 2, 1) := by decide +kernel
theorem d_LW_law_311 : decode b_LW_law 311 = .ok (.aload_n 0, 1) := by decide +kernel
theorem d_LW_law_312 : decode b_LW_law 312 = .ok (.iload_n 3, 1) := by decide +kernel
theorem d_LW_law_313 : decode b_LW_law 313 = .ok (.iconst 1, 1) := by decide +kernel
theorem d_LW_law_314 : decode b_LW_law 314 = .ok (.iadd, 1) := by decide +kernel
theorem d_LW_law_315 : decode b_LW_law 315 = .ok (.iaload, 1) := by decide +kernel
theorem d_LW_law_316 : decode b_LW_law 316 = .ok (.invokevirtual 40, 3) := by decide +kernel
theorem d_LW_law_319 : decode b_LW_law 319 = .ok (.if_icmp .eq 370, 3) := by decide +kernel
theorem d_LW_law_322 : decode b_LW_law 322 = .ok (.iconst 0, 1) := by decide +kernel
theorem d_LW_law_323 : decode b_LW_law 323 = .ok (.ireturn, 1) := by decide +kernel
theorem d_LW_law_324 : decode b_LW_law 324 = .ok (.aload_n 1, 1) := by decide +kernel
theorem d_LW_law_325 : decode b_LW_law 325 = .ok (.aload_n 0, 1) := by decide +kernel
theorem d_LW_law_326 : decode b_LW_law 326 = .ok (.iload_n 3, 1) := by decide +kernel
theorem d_LW_law_327 : decode b_LW_law 327 = .ok (.iconst 1, 1) := by decide +kernel
theorem d_LW_law_328 : decode b_LW_law 328 = .ok (.iadd, 1) := by decide +kernel
theorem d_LW_law_329 : decode b_LW_law 329 = .ok (.iaload, 1) := by decide +kernel
theorem d_LW_law_330 : decode b_LW_law 330 = .ok (.aload_n 0, 1) := by decide +kernel
theorem d_LW_law_331 : decode b_LW_law 331 = .ok (.iload_n 3, 1) := by decide +kernel
theorem d_LW_law_332 : decode b_LW_law 332 = .ok (.iconst 2, 1) := by decide +kernel
theorem d_LW_law_333 : decode b_LW_law 333 = .ok (.iadd, 1) := by decide +kernel
theorem d_LW_law_334 : decode b_LW_law 334 = .ok (.iaload, 1) := by decide +kernel
theorem d_LW_law_335 : decode b_LW_law 335 = .ok (.invokevirtual 41, 3) := by decide +kernel
theorem d_LW_law_338 : decode b_LW_law 338 = .ok (.aload_n 2, 1) := by decide +kernel
theorem d_LW_law_339 : decode b_LW_law 339 = .ok (.aload_n 0, 1) := by decide +kernel
theorem d_LW_law_340 : decode b_LW_law 340 = .ok (.iload_n 3, 1) := by decide +kernel
theorem d_LW_law_341 : decode b_LW_law 341 = .ok (.iconst 1, 1) := by decide +kernel
theorem d_LW_law_342 : decode b_LW_law 342 = .ok (.iadd, 1) := by decide +kernel
theorem d_LW_law_343 : decode b_LW_law 343 = .ok (.iaload, 1) := by decide +kernel
theorem d_LW_law_344 : decode b_LW_law 344 = .ok (.aload_n 0, 1) := by decide +kernel
theorem d_LW_law_345 : decode b_LW_law 345 = .ok (.iload_n 3, 1) := by decide +kernel
theorem d_LW_law_346 : decode b_LW_law 346 = .ok (.iconst 2, 1) := by decide +kernel
theorem d_LW_law_347 : decode b_LW_law 347 = .ok (.iadd, 1) := by decide +kernel
theorem d_LW_law_348 : decode b_LW_law 348 = .ok (.iaload, 1) := by decide +kernel
theorem d_LW_law_349 : decode b_LW_law 349 = .ok (.invokevirtual 44, 3) := by decide +kernel
theorem d_LW_law_352 : decode b_LW_law 352 = .ok (.if_icmp .eq 337, 3) := by decide +kernel
theorem d_LW_law_355 : decode b_LW_law 355 = .ok (.iconst 0, 1) := by decide +kernel
theorem d_LW_law_356 : decode b_LW_law 356 = .ok (.ireturn, 1) := by decide +kernel
theorem d_LW_law_357 : decode b_LW_law 357 = .ok (.aload_n 1, 1) := by decide +kernel
theorem d_LW_law_358 : decode b_LW_law 358 = .ok (.aload_n 0, 1) := by decide +kernel
theorem d_LW_law_359 : decode b_LW_law 359 = .ok (.iload_n 3, 1) := by decide +kernel
theorem d_LW_law_360 : decode b_LW_law 360 = .ok (.iconst 1, 1) := by decide +kernel
theorem d_LW_law_361 : decode b_LW_law 361 = .ok (.iadd, 1) := by decide +kernel
theorem d_LW_law_362 : decode b_LW_law 362 = .ok (.iaload, 1) := by decide +kernel
theorem d_LW_law_363 : decode b_LW_law 363 = .ok (.aload_n 0, 1) := by decide +kernel
theorem d_LW_law_364 : decode b_LW_law 364 = .ok (.iload_n 3, 1) := by decide +kernel
theorem d_LW_law_365 : decode b_LW_law 365 = .ok (.iconst 2, 1) := by decide +kernel
theorem d_LW_law_366 : decode b_LW_law 366 = .ok (.iadd, 1) := by decide +kernel
theorem d_LW_law_367 : decode b_LW_law 367 = .ok (.iaload, 1) := by decide +kernel
theorem d_LW_law_368 : decode b_LW_law 368 = .ok (.invokevirtual 45, 3) := by decide +kernel
theorem d_LW_law_371 : decode b_LW_law 371 = .ok (.aload_n 2, 1) := by decide +kernel
theorem d_LW_law_372 : decode b_LW_law 372 = .ok (.aload_n 0, 1) := by decide +kernel
theorem d_LW_law_373 : decode b_LW_law 373 = .ok (.iload_n 3, 1) := by decide +kernel
theorem d_LW_law_374 : decode b_LW_law 374 = .ok (.iconst 1, 1) := by decide +kernel
theorem d_LW_law_375 : decode b_LW_law 375 = .ok (.iadd, 1) := by decide +kernel
theorem d_LW_law_376 : decode b_LW_law 376 = .ok (.iaload, 1) := by decide +kernel
theorem d_LW_law_377 : decode b_LW_law 377 = .ok (.aload_n 0, 1) := by decide +kernel
theorem d_LW_law_378 : decode b_LW_law 378 = .ok (.iload_n 3, 1) := by decide +kernel
theorem d_LW_law_379 : decode b_LW_law 379 = .ok (.iconst 2, 1) := by decide +kernel
theorem d_LW_law_380 : decode b_LW_law 380 = .ok (.iadd, 1) := by decide +kernel
theorem d_LW_law_381 : decode b_LW_law 381 = .ok (.iaload, 1) := by decide +kernel
theorem d_LW_law_382 : decode b_LW_law 382 = .ok (.invokevirtual 49, 3) := by decide +kernel
theorem d_LW_law_385 : decode b_LW_law 385 = .ok (.if_icmp .eq 304, 3) := by decide +kernel
theorem d_LW_law_388 : decode b_LW_law 388 = .ok (.iconst 0, 1) := by decide +kernel
theorem d_LW_law_389 : decode b_LW_law 389 = .ok (.ireturn, 1) := by decide +kernel
theorem d_LW_law_390 : decode b_LW_law 390 = .ok (.aload_n 1, 1) := by decide +kernel
theorem d_LW_law_391 : decode b_LW_law 391 = .ok (.aload_n 0, 1) := by decide +kernel
theorem d_LW_law_392 : decode b_LW_law 392 = .ok (.iload_n 3, 1) := by decide +kernel
theorem d_LW_law_393 : decode b_LW_law 393 = .ok (.iconst 1, 1) := by decide +kernel
theorem d_LW_law_394 : decode b_LW_law 394 = .ok (.iadd, 1) := by decide +kernel
theorem d_LW_law_395 : decode b_LW_law 395 = .ok (.iaload, 1) := by decide +kernel
theorem d_LW_law_396 : decode b_LW_law 396 = .ok (.aload_n 0, 1) := by decide +kernel
theorem d_LW_law_397 : decode b_LW_law 397 = .ok (.iload_n 3, 1) := by decide +kernel
theorem d_LW_law_398 : decode b_LW_law 398 = .ok (.iconst 2, 1) := by decide +kernel
theorem d_LW_law_399 : decode b_LW_law 399 = .ok (.iadd, 1) := by decide +kernel
theorem d_LW_law_400 : decode b_LW_law 400 = .ok (.iaload, 1) := by decide +kernel
theorem d_LW_law_401 : decode b_LW_law 401 = .ok (.invokevirtual 50, 3) := by decide +kernel
theorem d_LW_law_404 : decode b_LW_law 404 = .ok (.aload_n 2, 1) := by decide +kernel
theorem d_LW_law_405 : decode b_LW_law 405 = .ok (.aload_n 0, 1) := by decide +kernel
theorem d_LW_law_406 : decode b_LW_law 406 = .ok (.iload_n 3, 1) := by decide +kernel
theorem d_LW_law_407 : decode b_LW_law 407 = .ok (.iconst 1, 1) := by decide +kernel
theorem d_LW_law_408 : decode b_LW_law 408 = .ok (.iadd, 1) := by decide +kernel
theorem d_LW_law_409 : decode b_LW_law 409 = .ok (.iaload, 1) := by decide +kernel
theorem d_LW_law_410 : decode b_LW_law 410 = .ok (.aload_n 0, 1) := by decide +kernel
theorem d_LW_law_411 : decode b_LW_law 411 = .ok (.iload_n 3, 1) := by decide +kernel
theorem d_LW_law_412 : decode b_LW_law 412 = .ok (.iconst 2, 1) := by decide +kernel
theorem d_LW_law_413 : decode b_LW_law 413 = .ok (.iadd, 1) := by decide +kernel
theorem d_LW_law_414 : decode b_LW_law 414 = .ok (.iaload, 1) := by decide +kernel
theorem d_LW_law_415 : decode b_LW_law 415 = .ok (.invokevirtual 54, 3) := by decide +kernel
theorem d_LW_law_418 : decode b_LW_law 418 = .ok (.lcmp, 1) := by decide +kernel
theorem d_LW_law_419 : decode b_LW_law 419 = .ok (.ifCond .eq 270, 3) := by decide +kernel
theorem d_LW_law_422 : decode b_LW_law 422 = .ok (.iconst 0, 1) := by decide +kernel
theorem d_LW_law_423 : decode b_LW_law 423 = .ok (.ireturn, 1) := by decide +kernel
theorem d_LW_law_424 : decode b_LW_law 424 = .ok (.aload_n 1, 1) := by decide +kernel
theorem d_LW_law_425 : decode b_LW_law 425 = .ok (.aload_n 0, 1) := by decide +kernel
theorem d_LW_law_426 : decode b_LW_law 426 = .ok (.iload_n 3, 1) := by decide +kernel
theorem d_LW_law_427 : decode b_LW_law 427 = .ok (.iconst 1, 1) := by decide +kernel
theorem d_LW_law_428 : decode b_LW_law 428 = .ok (.iadd, 1) := by decide +kernel
theorem d_LW_law_429 : decode b_LW_law 429 = .ok (.iaload, 1) := by decide +kernel
theorem d_LW_law_430 : decode b_LW_law 430 = .ok (.aload_n 0, 1) := by decide +kernel
theorem d_LW_law_431 : decode b_LW_law 431 = .ok (.iload_n 3, 1) := by decide +kernel
theorem d_LW_law_432 : decode b_LW_law 432 = .ok (.iconst 2, 1) := by decide +kernel
theorem d_LW_law_433 : decode b_LW_law 433 = .ok (.iadd, 1) := by decide +kernel
theorem d_LW_law_434 : decode b_LW_law 434 = .ok (.iaload, 1) := by decide +kernel
theorem d_LW_law_435 : decode b_LW_law 435 = .ok (.invokevirtual 55, 3) := by decide +kernel
theorem d_LW_law_438 : decode b_LW_law 438 = .ok (.aload_n 2, 1) := by decide +kernel
theorem d_LW_law_439 : decode b_LW_law 439 = .ok (.aload_n 0, 1) := by decide +kernel
theorem d_LW_law_440 : decode b_LW_law 440 = .ok (.iload_n 3, 1) := by decide +kernel
theorem d_LW_law_441 : decode b_LW_law 441 = .ok (.iconst 1, 1) := by decide +kernel
theorem d_LW_law_442 : decode b_LW_law 442 = .ok (.iadd, 1) := by decide +kernel
theorem d_LW_law_443 : decode b_LW_law 443 = .ok (.iaload, 1) := by decide +kernel
theorem d_LW_law_444 : decode b_LW_law 444 = .ok (.aload_n 0, 1) := by decide +kernel
theorem d_LW_law_445 : decode b_LW_law 445 = .ok (.iload_n 3, 1) := by decide +kernel
theorem d_LW_law_446 : decode b_LW_law 446 = .ok (.iconst 2, 1) := by decide +kernel
theorem d_LW_law_447 : decode b_LW_law 447 = .ok (.iadd, 1) := by decide +kernel
theorem d_LW_law_448 : decode b_LW_law 448 = .ok (.iaload, 1) := by decide +kernel
theorem d_LW_law_449 : decode b_LW_law 449 = .ok (.invokevirtual 58, 3) := by decide +kernel
theorem d_LW_law_452 : decode b_LW_law 452 = .ok (.if_icmp .eq 237, 3) := by decide +kernel
theorem d_LW_law_455 : decode b_LW_law 455 = .ok (.iconst 0, 1) := by decide +kernel
theorem d_LW_law_456 : decode b_LW_law 456 = .ok (.ireturn, 1) := by decide +kernel
theorem d_LW_law_457 : decode b_LW_law 457 = .ok (.aload_n 1, 1) := by decide +kernel
theorem d_LW_law_458 : decode b_LW_law 458 = .ok (.aload_n 0, 1) := by decide +kernel
theorem d_LW_law_459 : decode b_LW_law 459 = .ok (.iload_n 3, 1) := by decide +kernel
theorem d_LW_law_460 : decode b_LW_law 460 = .ok (.iconst 1, 1) := by decide +kernel
theorem d_LW_law_461 : decode b_LW_law 461 = .ok (.iadd, 1) := by decide +kernel
theorem d_LW_law_462 : decode b_LW_law 462 = .ok (.iaload, 1) := by decide +kernel
end
section
theorem d_LW_law_463 : decode b_LW_law 463 = .ok (.invokevirtual 59, 3) := by decide +kernel
theorem d_LW_law_466 : decode b_LW_law 466 = .ok (.aload_n 2, 1) := by decide +kernel
theorem d_LW_law_467 : decode b_LW_law 467 = .ok (.aload_n 0, 1) := by decide +kernel
theorem d_LW_law_468 : decode b_LW_law 468 = .ok (.iload_n 3, 1) := by decide +kernel
theorem d_LW_law_469 : decode b_LW_law 469 = .ok (.iconst 1, 1) := by decide +kernel
theorem d_LW_law_470 : decode b_LW_law 470 = .ok (.iadd, 1) := by decide +kernel
theorem d_LW_law_471 : decode b_LW_law 471 = .ok (.iaload, 1) := by decide +kernel
theorem d_LW_law_472 : decode b_LW_law 472 = .ok (.invokevirtual 62, 3) := by decide +kernel
theorem d_LW_law_475 : decode b_LW_law 475 = .ok (.if_icmp .eq 214, 3) := by decide +kernel
theorem d_LW_law_478 : decode b_LW_law 478 = .ok (.iconst 0, 1) := by decide +kernel
theorem d_LW_law_479 : decode b_LW_law 479 = .ok (.ireturn, 1) := by decide +kernel
theorem d_LW_law_480 : decode b_LW_law 480 = .ok (.aload_n 1, 1) := by decide +kernel
theorem d_LW_law_481 : decode b_LW_law 481 = .ok (.aload_n 0, 1) := by decide +kernel
theorem d_LW_law_482 : decode b_LW_law 482 = .ok (.iload_n 3, 1) := by decide +kernel
theorem d_LW_law_483 : decode b_LW_law 483 = .ok (.iconst 1, 1) := by decide +kernel
theorem d_LW_law_484 : decode b_LW_law 484 = .ok (.iadd, 1) := by decide +kernel
theorem d_LW_law_485 : decode b_LW_law 485 = .ok (.iaload, 1) := by decide +kernel
theorem d_LW_law_486 : decode b_LW_law 486 = .ok (.aload_n 0, 1) := by decide +kernel
theorem d_LW_law_487 : decode b_LW_law 487 = .ok (.iload_n 3, 1) := by decide +kernel
theorem d_LW_law_488 : decode b_LW_law 488 = .ok (.iconst 2, 1) := by decide +kernel
theorem d_LW_law_489 : decode b_LW_law 489 = .ok (.iadd, 1) := by decide +kernel
theorem d_LW_law_490 : decode b_LW_law 490 = .ok (.iaload, 1) := by decide +kernel
theorem d_LW_law_491 : decode b_LW_law 491 = .ok (.invokevirtual 63, 3) := by decide +kernel
theorem d_LW_law_494 : decode b_LW_law 494 = .ok (.aload_n 2, 1) := by decide +kernel
theorem d_LW_law_495 : decode b_LW_law 495 = .ok (.aload_n 0, 1) := by decide +kernel
theorem d_LW_law_496 : decode b_LW_law 496 = .ok (.iload_n 3, 1) := by decide +kernel
theorem d_LW_law_497 : decode b_LW_law 497 = .ok (.iconst 1, 1) := by decide +kernel
theorem d_LW_law_498 : decode b_LW_law 498 = .ok (.iadd, 1) := by decide +kernel
theorem d_LW_law_499 : decode b_LW_law 499 = .ok (.iaload, 1) := by decide +kernel
theorem d_LW_law_500 : decode b_LW_law 500 = .ok (.aload_n 0, 1) := by decide +kernel
theorem d_LW_law_501 : decode b_LW_law 501 = .ok (.iload_n 3, 1) := by decide +kernel
theorem d_LW_law_502 : decode b_LW_law 502 = .ok (.iconst 2, 1) := by decide +kernel
theorem d_LW_law_503 : decode b_LW_law 503 = .ok (.iadd, 1) := by decide +kernel
theorem d_LW_law_504 : decode b_LW_law 504 = .ok (.iaload, 1) := by decide +kernel
theorem d_LW_law_505 : decode b_LW_law 505 = .ok (.invokevirtual 66, 3) := by decide +kernel
theorem d_LW_law_508 : decode b_LW_law 508 = .ok (.if_icmp .eq 181, 3) := by decide +kernel
theorem d_LW_law_511 : decode b_LW_law 511 = .ok (.iconst 0, 1) := by decide +kernel
theorem d_LW_law_512 : decode b_LW_law 512 = .ok (.ireturn, 1) := by decide +kernel
theorem d_LW_law_513 : decode b_LW_law 513 = .ok (.aload_n 1, 1) := by decide +kernel
theorem d_LW_law_514 : decode b_LW_law 514 = .ok (.aload_n 0, 1) := by decide +kernel
theorem d_LW_law_515 : decode b_LW_law 515 = .ok (.iload_n 3, 1) := by decide +kernel
theorem d_LW_law_516 : decode b_LW_law 516 = .ok (.iconst 1, 1) := by decide +kernel
theorem d_LW_law_517 : decode b_LW_law 517 = .ok (.iadd, 1) := by decide +kernel
theorem d_LW_law_518 : decode b_LW_law 518 = .ok (.iaload, 1) := by decide +kernel
theorem d_LW_law_519 : decode b_LW_law 519 = .ok (.aload_n 0, 1) := by decide +kernel
theorem d_LW_law_520 : decode b_LW_law 520 = .ok (.iload_n 3, 1) := by decide +kernel
theorem d_LW_law_521 : decode b_LW_law 521 = .ok (.iconst 2, 1) := by decide +kernel
theorem d_LW_law_522 : decode b_LW_law 522 = .ok (.iadd, 1) := by decide +kernel
theorem d_LW_law_523 : decode b_LW_law 523 = .ok (.iaload, 1) := by decide +kernel
theorem d_LW_law_524 : decode b_LW_law 524 = .ok (.aload_n 0, 1) := by decide +kernel
theorem d_LW_law_525 : decode b_LW_law 525 = .ok (.iload_n 3, 1) := by decide +kernel
theorem d_LW_law_526 : decode b_LW_law 526 = .ok (.iconst 3, 1) := by decide +kernel
theorem d_LW_law_527 : decode b_LW_law 527 = .ok (.iadd, 1) := by decide +kernel
theorem d_LW_law_528 : decode b_LW_law 528 = .ok (.iaload, 1) := by decide +kernel
theorem d_LW_law_529 : decode b_LW_law 529 = .ok (.invokevirtual 67, 3) := by decide +kernel
theorem d_LW_law_532 : decode b_LW_law 532 = .ok (.aload_n 2, 1) := by decide +kernel
theorem d_LW_law_533 : decode b_LW_law 533 = .ok (.aload_n 0, 1) := by decide +kernel
theorem d_LW_law_534 : decode b_LW_law 534 = .ok (.iload_n 3, 1) := by decide +kernel
theorem d_LW_law_535 : decode b_LW_law 535 = .ok (.iconst 1, 1) := by decide +kernel
theorem d_LW_law_536 : decode b_LW_law 536 = .ok (.iadd, 1) := by decide +kernel
theorem d_LW_law_537 : decode b_LW_law 537 = .ok (.iaload, 1) := by decide +kernel
theorem d_LW_law_538 : decode b_LW_law 538 = .ok (.aload_n 0, 1) := by decide +kernel
theorem d_LW_law_539 : decode b_LW_law 539 = .ok (.iload_n 3, 1) := by decide +kernel
theorem d_LW_law_540 : decode b_LW_law 540 = .ok (.iconst 2, 1) := by decide +kernel
theorem d_LW_law_541 : decode b_LW_law 541 = .ok (.iadd, 1) := by decide +kernel
theorem d_LW_law_542 : decode b_LW_law 542 = .ok (.iaload, 1) := by decide +kernel
theorem d_LW_law_543 : decode b_LW_law 543 = .ok (.aload_n 0, 1) := by decide +kernel
theorem d_LW_law_544 : decode b_LW_law 544 = .ok (.iload_n 3, 1) := by decide +kernel
theorem d_LW_law_545 : decode b_LW_law 545 = .ok (.iconst 3, 1) := by decide +kernel
theorem d_LW_law_546 : decode b_LW_law 546 = .ok (.iadd, 1) := by decide +kernel
theorem d_LW_law_547 : decode b_LW_law 547 = .ok (.iaload, 1) := by decide +kernel
theorem d_LW_law_548 : decode b_LW_law 548 = .ok (.invokevirtual 70, 3) := by decide +kernel
theorem d_LW_law_551 : decode b_LW_law 551 = .ok (.if_icmp .eq 138, 3) := by decide +kernel
theorem d_LW_law_554 : decode b_LW_law 554 = .ok (.iconst 0, 1) := by decide +kernel
theorem d_LW_law_555 : decode b_LW_law 555 = .ok (.ireturn, 1) := by decide +kernel
theorem d_LW_law_556 : decode b_LW_law 556 = .ok (.aload_n 1, 1) := by decide +kernel
theorem d_LW_law_557 : decode b_LW_law 557 = .ok (.aload_n 0, 1) := by decide +kernel
theorem d_LW_law_558 : decode b_LW_law 558 = .ok (.iload_n 3, 1) := by decide +kernel
theorem d_LW_law_559 : decode b_LW_law 559 = .ok (.iconst 1, 1) := by decide +kernel
theorem d_LW_law_560 : decode b_LW_law 560 = .ok (.iadd, 1) := by decide +kernel
theorem d_LW_law_561 : decode b_LW_law 561 = .ok (.iaload, 1) := by decide +kernel
theorem d_LW_law_562 : decode b_LW_law 562 = .ok (.aload_n 0, 1) := by decide +kernel
theorem d_LW_law_563 : decode b_LW_law 563 = .ok (.iload_n 3, 1) := by decide +kernel
theorem d_LW_law_564 : decode b_LW_law 564 = .ok (.iconst 2, 1) := by decide +kernel
theorem d_LW_law_565 : decode b_LW_law 565 = .ok (.iadd, 1) := by decide +kernel
theorem d_LW_law_566 : decode b_LW_law 566 = .ok (.iaload, 1) := by decide +kernel
theorem d_LW_law_567 : decode b_LW_law 567 = .ok (.aload_n 0, 1) := by decide +kernel
theorem d_LW_law_568 : decode b_LW_law 568 = .ok (.iload_n 3, 1) := by decide +kernel
theorem d_LW_law_569 : decode b_LW_law 569 = .ok (.iconst 3, 1) := by decide +kernel
theorem d_LW_law_570 : decode b_LW_law 570 = .ok (.iadd, 1) := by decide +kernel
theorem d_LW_law_571 : decode b_LW_law 571 = .ok (.iaload, 1) := by decide +kernel
theorem d_LW_law_572 : decode b_LW_law 572 = .ok (.invokevirtual 71, 3) := by decide +kernel
theorem d_LW_law_575 : decode b_LW_law 575 = .ok (.aload_n 2, 1) := by decide +kernel
theorem d_LW_law_576 : decode b_LW_law 576 = .ok (.aload_n 0, 1) := by decide +kernel
theorem d_LW_law_577 : decode b_LW_law 577 = .ok (.iload_n 3, 1) := by decide +kernel
theorem d_LW_law_578 : decode b_LW_law 578 = .ok (.iconst 1, 1) := by decide +kernel
theorem d_LW_law_579 : decode b_LW_law 579 = .ok (.iadd, 1) := by decide +kernel
theorem d_LW_law_580 : decode b_LW_law 580 = .ok (.iaload, 1) := by decide +kernel
theorem d_LW_law_581 : decode b_LW_law 581 = .ok (.aload_n 0, 1) := by decide +kernel
theorem d_LW_law_582 : decode b_LW_law 582 = .ok (.iload_n 3, 1) := by decide +kernel
theorem d_LW_law_583 : decode b_LW_law 583 = .ok (.iconst 2, 1) := by decide +kernel
theorem d_LW_law_584 : decode b_LW_law 584 = .ok (.iadd, 1) := by decide +kernel
theorem d_LW_law_585 : decode b_LW_law 585 = .ok (.iaload, 1) := by decide +kernel
theorem d_LW_law_586 : decode b_LW_law 586 = .ok (.aload_n 0, 1) := by decide +kernel
theorem d_LW_law_587 : decode b_LW_law 587 = .ok (.iload_n 3, 1) := by decide +kernel
theorem d_LW_law_588 : decode b_LW_law 588 = .ok (.iconst 3, 1) := by decide +kernel
theorem d_LW_law_589 : decode b_LW_law 589 = .ok (.iadd, 1) := by decide +kernel
theorem d_LW_law_590 : decode b_LW_law 590 = .ok (.iaload, 1) := by decide +kernel
theorem d_LW_law_591 : decode b_LW_law 591 = .ok (.invokevirtual 75, 3) := by decide +kernel
theorem d_LW_law_594 : decode b_LW_law 594 = .ok (.lcmp, 1) := by decide +kernel
theorem d_LW_law_595 : decode b_LW_law 595 = .ok (.ifCond .eq 94, 3) := by decide +kernel
theorem d_LW_law_598 : decode b_LW_law 598 = .ok (.iconst 0, 1) := by decide +kernel
theorem d_LW_law_599 : decode b_LW_law 599 = .ok (.ireturn, 1) := by decide +kernel
theorem d_LW_law_600 : decode b_LW_law 600 = .ok (.aload_n 1, 1) := by decide +kernel
theorem d_LW_law_601 : decode b_LW_law 601 = .ok (.aload_n 0, 1) := by decide +kernel
theorem d_LW_law_602 : decode b_LW_law 602 = .ok (.iload_n 3, 1) := by decide +kernel
theorem d_LW_law_603 : decode b_LW_law 603 = .ok (.iconst 1, 1) := by decide +kernel
theorem d_LW_law_604 : decode b_LW_law 604 = .ok (.iadd, 1) := by decide +kernel
theorem d_LW_law_605 : decode b_LW_law 605 = .ok (.iaload, 1) := by decide +kernel
theorem d_LW_law_606 : decode b_LW_law 606 = .ok (.aload_n 0, 1) := by decide +kernel
theorem d_LW_law_607 : decode b_LW_law 607 = .ok (.iload_n 3, 1) := by decide +kernel
theorem d_LW_law_608 : decode b_LW_law 608 = .ok (.iconst 2, 1) := by decide +kernel
theorem d_LW_law_609 : decode b_LW_law 609 = .ok (.iadd, 1) := by decide +kernel
theorem d_LW_law_610 : decode b_LW_law 610 = .ok (.iaload, 1) := by decide +kernel
theorem d_LW_law_611 : decode b_LW_law 611 = .ok (.invokevirtual 76, 3) := by decide +kernel
theorem d_LW_law_614 : decode b_LW_law 614 = .ok (.aload_n 2, 1) := by decide +kernel
theorem d_LW_law_615 : decode b_LW_law 615 = .ok (.aload_n 0, 1) := by decide +kernel
theorem d_LW_law_616 : decode b_LW_law 616 = .ok (.iload_n 3, 1) := by decide +kernel
theorem d_LW_law_617 : decode b_LW_law 617 = .ok (.iconst 1, 1) := by decide +kernel
theorem d_LW_law_618 : decode b_LW_law 618 = .ok (.iadd, 1) := by decide +kernel
theorem d_LW_law_619 : decode b_LW_law 619 = .ok (.iaload, 1) := by decide +kernel
theorem d_LW_law_620 : decode b_LW_law 620 = .ok (.aload_n 0, 1) := by decide +kernel
theorem d_LW_law_621 : decode b_LW_law 621 = .ok (.iload_n 3, 1) := by decide +kernel
theorem d_LW_law_622 : decode b_LW_law 622 = .ok (.iconst 2, 1) := by decide +kernel
theorem d_LW_law_623 : decode b_LW_law 623 = .ok (.iadd, 1) := by decide +kernel
theorem d_LW_law_624 : decode b_LW_law 624 = .ok (.iaload, 1) := by decide +kernel
theorem d_LW_law_625 : decode b_LW_law 625 = .ok (.invokevirtual 79, 3) := by decide +kernel
theorem d_LW_law_628 : decode b_LW_law 628 = .ok (.if_icmp .eq 61, 3) := by decide +kernel
theorem d_LW_law_631 : decode b_LW_law 631 = .ok (.iconst 0, 1) := by decide +kernel
theorem d_LW_law_632 : decode b_LW_law 632 = .ok (.ireturn, 1) := by decide +kernel
theorem d_LW_law_633 : decode b_LW_law 633 = .ok (.aload_n 1, 1) := by decide +kernel
theorem d_LW_law_634 : decode b_LW_law 634 = .ok (.aload_n 0, 1) := by decide +kernel
theorem d_LW_law_635 : decode b_LW_law 635 = .ok (.iload_n 3, 1) := by decide +kernel
theorem d_LW_law_636 : decode b_LW_law 636 = .ok (.iconst 1, 1) := by decide +kernel
theorem d_LW_law_637 : decode b_LW_law 637 = .ok (.iadd, 1) := by decide +kernel
theorem d_LW_law_638 : decode b_LW_law 638 = .ok (.iaload, 1) := by decide +kernel
theorem d_LW_law_639 : decode b_LW_law 639 = .ok (.aload_n 0, 1) := by decide +kernel
theorem d_LW_law_640 : decode b_LW_law 640 = .ok (.iload_n 3, 1) := by decide +kernel
theorem d_LW_law_641 : decode b_LW_law 641 = .ok (.iconst 2, 1) := by decide +kernel
theorem d_LW_law_642 : decode b_LW_law 642 = .ok (.iadd, 1) := by decide +kernel
theorem d_LW_law_643 : decode b_LW_law 643 = .ok (.iaload, 1) := by decide +kernel
theorem d_LW_law_644 : decode b_LW_law 644 = .ok (.invokevirtual 80, 3) := by decide +kernel
theorem d_LW_law_647 : decode b_LW_law 647 = .ok (.aload_n 2, 1) := by decide +kernel
theorem d_LW_law_648 : decode b_LW_law 648 = .ok (.aload_n 0, 1) := by decide +kernel
theorem d_LW_law_649 : decode b_LW_law 649 = .ok (.iload_n 3, 1) := by decide +kernel
theorem d_LW_law_650 : decode b_LW_law 650 = .ok (.iconst 1, 1) := by decide +kernel
theorem d_LW_law_651 : decode b_LW_law 651 = .ok (.iadd, 1) := by decide +kernel
theorem d_LW_law_652 : decode b_LW_law 652 = .ok (.iaload, 1) := by decide +kernel
theorem d_LW_law_653 : decode b_LW_law 653 = .ok (.aload_n 0, 1) := by decide +kernel
theorem d_LW_law_654 : decode b_LW_law 654 = .ok (.iload_n 3, 1) := by decide +kernel
theorem d_LW_law_655 : decode b_LW_law 655 = .ok (.iconst 2, 1) := by decide +kernel
theorem d_LW_law_656 : decode b_LW_law 656 = .ok (.iadd, 1) := by decide +kernel
theorem d_LW_law_657 : decode b_LW_law 657 = .ok (.iaload, 1) := by decide +kernel
theorem d_LW_law_658 : decode b_LW_law 658 = .ok (.invokevirtual 83, 3) := by decide +kernel
theorem d_LW_law_661 : decode b_LW_law 661 = .ok (.if_icmp .eq 28, 3) := by decide +kernel
theorem d_LW_law_664 : decode b_LW_law 664 = .ok (.iconst 0, 1) := by decide +kernel
theorem d_LW_law_665 : decode b_LW_law 665 = .ok (.ireturn, 1) := by decide +kernel
theorem d_LW_law_666 : decode b_LW_law 666 = .ok (.aload_n 1, 1) := by decide +kernel
theorem d_LW_law_667 : decode b_LW_law 667 = .ok (.aload_n 0, 1) := by decide +kernel
theorem d_LW_law_668 : decode b_LW_law 668 = .ok (.iload_n 3, 1) := by decide +kernel
theorem d_LW_law_669 : decode b_LW_law 669 = .ok (.iconst 1, 1) := by decide +kernel
theorem d_LW_law_670 : decode b_LW_law 670 = .ok (.iadd, 1) := by decide +kernel
theorem d_LW_law_671 : decode b_LW_law 671 = .ok (.iaload, 1) := by decide +kernel
theorem d_LW_law_672 : decode b_LW_law 672 = .ok (.invokevirtual 84, 3) := by decide +kernel
theorem d_LW_law_675 : decode b_LW_law 675 = .ok (.aload_n 2, 1) := by decide +kernel
theorem d_LW_law_676 : decode b_LW_law 676 = .ok (.aload_n 0, 1) := by decide +kernel
theorem d_LW_law_677 : decode b_LW_law 677 = .ok (.iload_n 3, 1) := by decide +kernel
theorem d_LW_law_678 : decode b_LW_law 678 = .ok (.iconst 1, 1) := by decide +kernel
theorem d_LW_law_679 : decode b_LW_law 679 = .ok (.iadd, 1) := by decide +kernel
theorem d_LW_law_680 : decode b_LW_law 680 = .ok (.iaload, 1) := by decide +kernel
theorem d_LW_law_681 : decode b_LW_law 681 = .ok (.invokevirtual 87, 3) := by decide +kernel
theorem d_LW_law_684 : decode b_LW_law 684 = .ok (.if_icmp .eq 5, 3) := by decide +kernel
theorem d_LW_law_687 : decode b_LW_law 687 = .ok (.iconst 0, 1) := by decide +kernel
theorem d_LW_law_688 : decode b_LW_law 688 = .ok (.ireturn, 1) := by decide +kernel
theorem d_LW_law_689 : decode b_LW_law 689 = .ok (.iinc 3 5, 3) := by decide +kernel
theorem d_LW_law_692 : decode b_LW_law 692 = .ok (.goto (-674), 3) := by decide +kernel
theorem d_LW_law_695 : decode b_LW_law 695 = .ok (.iconst 1, 1) := by decide +kernel
theorem d_LW_law_696 : decode b_LW_law 696 = .ok (.ireturn, 1) := by decide +kernel
end
section
/-! ===== what every contract here knows: the classes, the array classes (int, long, boolean, Object), the nest mates' links and the casts ===== -/
abbrev x_G : Type := va_G × (ClassId × ClassId × ClassId × ClassId)
abbrev x_tys (G : x_G) : List (ClassId × FieldType) := [(G.2.1, .int), (G.2.2.1, .long), (G.2.2.2.1, .boolean), (G.2.2.2.2, .object "java/lang/Object")]
abbrev x_nt : List Cond := [.fieldLinkNest "ImageStores" 172 "ImageStores$Image" "parent" "I" "ImageStores", .fieldLinkNest "ImageStores" 64 "ImageStores$Image" "tree" "LImageStores$Tree;" "ImageStores", .fieldLinkNest "ImageStores" 125 "ImageStores$Image" "layerNumbers" "[I" "ImageStores", .fieldLinkNest "ImageStores" 145 "ImageStores$Layer" "paths" "[I" "ImageStores", .fieldLinkNest "ImageStores" 148 "ImageStores$Layer" "marks" "[J" "ImageStores", .castable "ImageStores$Image" "ImageStores$Image", .castable "ImageStores$Layer" "ImageStores$Layer", .castable "ImageStores$Image" "java/lang/Object", .castable "ImageStores$Layer" "java/lang/Object"]
/-- ArrayList's empty row: its static's cell and place, the row itself, and the class object of Object[] (numbers kept where no class is) -/
abbrev x_sa (G : x_G) : Nat := G.1.2 100 0
abbrev x_so (G : x_G) : Nat := G.1.2 100 1
abbrev x_t (G : x_G) : Nat := G.1.2 100 2
abbrev x_mi (G : x_G) : Nat := G.1.2 100 3
def x_St (G : x_G) (U : State) : Prop := ∃ (cf : ClassId) (kf : Class) (fi : Nat) (f : Field), U.fieldFound? "java/util/ArrayList" "DEFAULTCAPACITY_EMPTY_ELEMENTDATA" "[Ljava/lang/Object;" = some (cf, kf, fi, f) ∧ f.isStatic = true ∧ kf.init = .initialized ∧ kf.statics = some (x_sa G) ∧ f.slot = x_so G
theorem x_St.moved {G : x_G} {u U : State} (hvm : u.vm.Alike U.vm) (h : x_St G u) : x_St G U := by
  obtain ⟨cf, kf, fi, f, h1, h2, h3, h4, h5⟩ := h
  obtain ⟨k', hi', he⟩ := State.fieldFound?_setVm hvm h1
  exact ⟨cf, k', fi, f, hi', h2, by rw [he]; exact h3, by rw [he]; exact h4, h5⟩
def x_K (G : x_G) (U : State) : Prop := va_K G.1 x_cl (x_tys G) U ∧ (∀ w ∈ x_nt, va_Nw w U) ∧ va_AO "java/lang/Object" U ∧ va_Dc U ∧ va_Mi "[Ljava/lang/Object;" (x_mi G) U ∧ x_St G U
theorem x_K.warm {G : x_G} {s U : State} (hW : s.WarmedH U.vm) (h : x_K G s) : x_K G U := by
  refine ⟨va_K.moved hW.alike h.1, ?_, va_AO.moved hW.alike h.2.2.1, va_Dc.moved hW.alike h.2.2.2.1, va_Mi.moved hW.alike h.2.2.2.2.1, x_St.moved hW.alike h.2.2.2.2.2⟩
  have h2 := h.2.1
  simp only [x_nt, List.forall_mem_cons] at h2 ⊢
  obtain ⟨a1, a2, a3, a4, a5, a6, a7, a8, a9, -⟩ := h2
  exact ⟨va_Nw.warmF hW a1, va_Nw.warmF hW a2, va_Nw.warmF hW a3, va_Nw.warmF hW a4, va_Nw.warmF hW a5, va_Nw.warmC hW a6, va_Nw.warmC hW a7, va_Nw.warmC hW a8, va_Nw.warmC hW a9, fun _ h => absurd h List.not_mem_nil⟩
theorem x_K.calling {G : x_G} {U : State} {g : JFrame} {mk : MethodId} {a : Array Value} (h : x_K G U) : x_K G (U.calling g mk a) := by
  refine ⟨va_K.moved (u := U) (U := U.calling g mk a) (Vm.Alike.refl U.vm) h.1, fun w hw => ?_, va_AO.moved (u := U) (U := U.calling g mk a) (Vm.Alike.refl U.vm) h.2.2.1, va_Dc.moved (u := U) (U := U.calling g mk a) (Vm.Alike.refl U.vm) h.2.2.2.1, va_Mi.moved (u := U) (U := U.calling g mk a) (Vm.Alike.refl U.vm) h.2.2.2.2.1, x_St.moved (u := U) (U := U.calling g mk a) (Vm.Alike.refl U.vm) h.2.2.2.2.2⟩
  have hon : w.onTables = true := by
    have hall : ∀ w ∈ x_nt, w.onTables = true := by decide +kernel
    exact hall w hw
  exact va_Nw.same hon (u := U) (U := U.calling g mk a) rfl (h.2.1 w hw)
/-- a contract's start -/
def x_P (G : x_G) (av : List Value) (PRE : Heap → Prop) : Array Value → State → Prop := fun v U => v = av.toArray ∧ x_K G U ∧ PRE U.heap
theorem x_blind {G : x_G} {av : List Value} {PRE : Heap → Prop} : FrameBlind (x_P G av PRE) := fun _ _ _ _ h => ⟨h.1, h.2.1.calling, h.2.2⟩
/-- a contract's end: the answer, the heap before and behind -/
def x_Q (POST : Option Value → Heap → Heap → Prop) : Array Value → State → Outcome → State → Prop := fun _ st o t => ∃ v, o = .returned v ∧ POST v st.heap t.heap
abbrev x_rm (d mc ms : Nat) : Room := { frames := d, cells := mc, slots := ms, locals := 28 * d }
abbrev x_ws (y : MethodName) (b : ByteArray) (maxL : Nat) (ret : Option FieldType) : List Cond := Cond.code y b maxL ret :: x_tb
theorem x_met {l : Launch} {y : MethodName} {rm : Room} {Qc : Array Value → State → Outcome → State → Prop} {mc ms : Nat} {free : Addr → Prop} {cc : ByteArray} {maxL : Nat} {ret : Option FieldType} {G : x_G} {av : List Value} {PRE : Heap → Prop}
    (hy : plainFor y = true) (hlen : (lg_sl av).length ≤ maxL)
    (body : ∀ (p : Program) (e : Env) (s : State) (m : MethodId) (below : List Frame) (meth : Method) (c : Code), p.tables.exec = Jvm.exec → c.code = cc → meth.sig.returnType = ret → c.maxLocals = maxL → s.vm.findClass y.cls = some m.cls → (∀ w ∈ x_tb, w.before av.toArray s = true) → meth.locks = false → meth.name = y.name → x_K G s → PRE s.heap → ∀ ls : Array Slot, lv_has ls maxL (lv_args 0 av) →
      W p l e rm s m av.toArray below meth c s.heap [] 0 0 (MQ below Qc av.toArray s mc ms free) (F0 m 0 ls [])) : Met l y (x_ws y cc maxL ret) rm (x_P G av PRE) Qc mc ms free := by
  refine va_MetF (cc := cc) (maxL := maxL) (ret := ret) hy rfl ?_
  intro p e s m args below meth c s₁ B hml hv
  obtain ⟨rfl, hK, hP⟩ := hv
  have hts := atoms_spec (ws := x_ws y cc maxL ret) B.pre
  have hl := lv_entry av (n := maxL) hlen
  rw [lg_entry_eq]
  generalize (lg_sl av ++ List.replicate (maxL - (lg_sl av).length) Slot.unset).toArray = ls at hl ⊢
  exact body p e s m below meth c B.exec B.bytes B.returns hml (findClass_of_methodNamed B.named) (fun w h => hts w (List.mem_cons_of_mem _ h)) B.notSynchronized (name_of_methodNamed B.named B.method).1 hK hP ls hl
theorem x_one {D : va_G} {cl : List vw_C} {q : Nat × va_E} {H : Heap} (h : va_at D cl q H) : va_P D cl [q] H := fun k z hk => by
  cases k with
  | zero => cases hk; exact h
  | succ k => simp at hk
theorem x_two {D : va_G} {cl : List vw_C} {q r : Nat × va_E} {H : Heap} (h : va_at D cl q H) (h' : va_at D cl r H) : va_P D cl [q, r] H := fun k z hk => by
  match k, hk with
  | 0, hk => cases hk; exact h
  | 1, hk => cases hk; exact h'
  | k + 2, hk => simp at hk
theorem x_D1 {A : Nat → Prop} {q : Nat × va_E} (h : A q.1) : va_D A [q] := by
  refine ⟨fun i j p r hi hj _ => ?_, fun k z hk => ?_⟩
  · have h1 := (List.getElem?_eq_some_iff.mp hi).1
    have h2 := (List.getElem?_eq_some_iff.mp hj).1
    simp at h1 h2
    omega
  · cases k with
    | zero => cases hk; exact h
    | succ k => simp at hk
theorem x_rcv {G : x_G} {s : State} {H : Heap} (hK : x_K G s) {b ci : Nat} {fs : List Value} {q : vw_C} (h : va_at G.1 x_cl (b, .inr (ci, fs)) H) (hc : x_cl[ci]? = some q) : ∃ cell : Cell, H[b]? = some cell ∧ cell.vm.isStatics = false ∧ s.vm.findClass q.1 = some cell.cls := va_recv hK.1 (x_one h) (q0 := 0) hc rfl
/-! ===== what a method that is called must have among the words ===== -/
def x_okN (y : MethodName) (n : Nat) : Prop := y.cls ≠ "java/lang/invoke/MethodHandle" ∧ y.cls ≠ "java/lang/invoke/VarHandle" ∧ (parseMethodDescriptor y.desc).map (fun d => d.parameters.length) = some n
def x_okV (y : MethodName) (b : ByteArray) (maxL : Nat) (ret : Option FieldType) (n : Nat) : Prop := Cond.code y b maxL ret ∈ x_tb ∧ Cond.instanceMethod y ∈ x_tb ∧ Cond.selects y.cls y y ∈ x_tb ∧ Cond.initialized y.cls ∈ x_tb ∧ x_okN y n
def x_okS (y : MethodName) (b : ByteArray) (maxL : Nat) (ret : Option FieldType) (n : Nat) : Prop := Cond.code y b maxL ret ∈ x_tb ∧ Cond.static y ∈ x_tb ∧ Cond.initialized y.cls ∈ x_tb ∧ x_okN y n
def x_okI (y : MethodName) (b : ByteArray) (maxL : Nat) (n : Nat) : Prop := Cond.code y b maxL none ∈ x_tb ∧ Cond.instanceMethod y ∈ x_tb ∧ Cond.initialized y.cls ∈ x_tb ∧ y.name = "<init>" ∧ x_okN y n
theorem x_gw {w : Cond} (h : w ∈ x_tb) : (w.onTables && w.keeps) = true ∨ ∃ ty, w = .arrayClass ty := good_of_word (List.mem_filter.mp h).2
theorem x_good {c : Cond} (h : c ∈ x_tb) : GoodIn x_tb (c :: x_tb) := fun w hw => by
  rcases List.mem_cons.mp hw with rfl | h2
  · exact ⟨h, x_gw h⟩
  · exact ⟨h2, x_gw h2⟩
/-- the machine's part of a walk -/
abbrev x_F (p : Program) (m : MethodId) (c : Code) (cc : ByteArray) (nL : Nat) (s : State) (args : Array Value) (own : String) : Prop := CallFix p m c cc nL s args x_tb own
section XC
variable {p : Program} {l : Launch} {e : Env} {R : Room} {s : State} {m : MethodId} {args : Array Value} {below : List Frame} {meth : Method} {c : Code} {H : Heap} {locs : List Loc} {cells slots : Nat} {Q : State → Prop}
variable {cc bytes : ByteArray} {pc nL maxL n index mc ms : Nat} {ls : Array Slot} {rest st0 As : List Value} {own : String} {y : MethodName} {ret : Option FieldType} {rm : Room} {G : x_G} {PRE : Heap → Prop} {Qc : Array Value → State → Outcome → State → Prop} {free : Addr → Prop} {b : Nat}
theorem x_V (F : x_F p m c cc nL s args own) (hM : Met l y (x_ws y bytes maxL ret) rm (x_P G (.ref b :: As) PRE) Qc mc ms free) (ok : x_okV y bytes maxL ret n) (kl : Cond.methodLink own index y ∈ x_tb) (hR : rm.frames + 1 ≤ R.frames ∧ 8 + (maxL + 11) + rm.locals ≤ R.locals) (hrc : rm.cells = mc) (hrs : rm.slots = ms) (hK : x_K G s)
    (hrv : ∃ cell : Cell, H[b]? = some cell ∧ cell.vm.isStatics = false ∧ s.vm.findClass y.cls = some cell.cls) (hpre : PRE H) (hn : As.length = n) (hsize : ls.size = nL) (hstack : st0 = As.reverse ++ .ref b :: rest) (hW : (rest.map fun v => v.category).sum ≤ 8) (hdg : decode cc pc = .ok (.invokevirtual index, 3)) (hf : cells + mc ≤ R.cells ∧ slots + ms ≤ R.slots) :
    va_Run p l e R s m args below meth c H locs cells slots mc ms (F0 m pc ls st0) rest (Qc (Value.ref b :: As).toArray) free := by
  obtain ⟨o1, o2, o3, o4, o5⟩ := ok
  have hts := F.2.2.2.2
  exact va_runV (n := n) F hM ⟨callB_of n hts (x_good o1) rfl hrc hrs (hts _ o4) (hts _ kl) o5 hR, hts _ o2, hts _ o3⟩ ⟨x_blind, hrv, fun U hU hWm => ⟨rfl, hK.warm hWm, by rw [hU]; exact hpre⟩⟩ rfl hn hsize hstack (lv_room hW) hdg hf
theorem x_S (F : x_F p m c cc nL s args own) (hM : Met l y (x_ws y bytes maxL ret) rm (x_P G As PRE) Qc mc ms free) (ok : x_okS y bytes maxL ret n) (kl : Cond.methodLink own index y ∈ x_tb) (hR : rm.frames + 1 ≤ R.frames ∧ 8 + (maxL + 11) + rm.locals ≤ R.locals) (hrc : rm.cells = mc) (hrs : rm.slots = ms) (hK : x_K G s)
    (hpre : PRE H) (hn : As.length = n) (hsize : ls.size = nL) (hstack : st0 = As.reverse ++ rest) (hW : (rest.map fun v => v.category).sum ≤ 8) (hdg : decode cc pc = .ok (.invokestatic index, 3)) (hf : cells + mc ≤ R.cells ∧ slots + ms ≤ R.slots) :
    va_Run p l e R s m args below meth c H locs cells slots mc ms (F0 m pc ls st0) rest (Qc As.toArray) free := by
  obtain ⟨o1, o2, o4, o5⟩ := ok
  have hts := F.2.2.2.2
  exact va_runS (n := n) F hM ⟨callB_of n hts (x_good o1) rfl hrc hrs (hts _ o4) (hts _ kl) o5 hR, hts _ o2⟩ ⟨x_blind, fun U hU hWm => ⟨rfl, hK.warm hWm, by rw [hU]; exact hpre⟩⟩ rfl hn hsize hstack (lv_room hW) hdg hf
theorem x_I (F : x_F p m c cc nL s args own) (hM : Met l y (x_ws y bytes maxL none) rm (x_P G (.ref b :: As) PRE) Qc mc ms free) (ok : x_okI y bytes maxL n) (kl : Cond.methodLink own index y ∈ x_tb) (hR : rm.frames + 1 ≤ R.frames ∧ 8 + (maxL + 11) + rm.locals ≤ R.locals) (hrc : rm.cells = mc) (hrs : rm.slots = ms) (hK : x_K G s)
    (hpre : PRE H) (hn : As.length = n) (hsize : ls.size = nL) (hstack : st0 = As.reverse ++ .ref b :: rest) (hW : (rest.map fun v => v.category).sum ≤ 8) (hdg : decode cc pc = .ok (.invokespecial index, 3)) (hf : cells + mc ≤ R.cells ∧ slots + ms ≤ R.slots) :
    va_Run p l e R s m args below meth c H locs cells slots mc ms (F0 m pc ls st0) rest (Qc (Value.ref b :: As).toArray) free := by
  obtain ⟨o1, o2, o4, o3, o5⟩ := ok
  have hts := F.2.2.2.2
  exact va_runI (n := n) F hM ⟨callB_of n hts (x_good o1) rfl hrc hrs (hts _ o4) (hts _ kl) o5 hR, o3, hts _ o2⟩ ⟨x_blind, fun U hU hWm => ⟨rfl, hK.warm hWm, by rw [hU]; exact hpre⟩⟩ rfl hn hsize hstack (lv_room hW) hdg hf
/-- behind a call that only reads -/
theorem x_rd {r : Value} {a : Array Value} (hr : va_Run p l e R s m args below meth c H locs cells slots 0 0 (F0 m pc ls st0) rest (k2_QcV r a) (fun _ => False)) (kk : W p l e R s m args below meth c H locs cells slots Q (F0 m (pc + 3) ls (r :: rest))) : W p l e R s m args below meth c H locs cells slots Q (F0 m pc ls st0) := W.callV hr.run kk
/-- behind a call that writes: A1 holds what it may write -/
theorem x_wr {POST : Option Value → Heap → Heap → Prop} {a : Array Value} {A : Nat → Prop} {H0 : Heap} (hr : va_Run p l e R s m args below meth c H locs cells slots mc ms (F0 m pc ls st0) rest (x_Q POST a) free) (hS : va_S A H0 H locs) (hf : ∀ q, free q → A q) (hoff : ∀ v H1, POST v H H1 → H.size ≤ H1.size ∧ ∀ q : Nat, q < H.size → ¬ A q → H1[q]? = H[q]?)
    (kk : ∀ (v : Option Value) (H1 : Heap) (locs1 : List Loc), POST v H H1 → va_S A H0 H1 locs1 → W p l e R s m args below meth c H1 locs1 (cells + mc) (slots + ms) Q (F0 m (pc + 3) ls (v.toList ++ rest))) : W p l e R s m args below meth c H locs cells slots Q (F0 m pc ls st0) := by
  intro T hT X
  obtain ⟨v, st₀, t, T', L, h0, X', hL, e1, e2, ⟨v', hv, hp⟩, st⟩ := hr T hT X
  cases hv
  rw [h0] at hp
  obtain ⟨hz, hk⟩ := hoff _ _ hp
  obtain ⟨t2, a1, b1⟩ := kk v t.heap (locs ++ L) hp ⟨Nat.le_trans hS.1 hz, fun q h1 h2 => by rw [hk q (Nat.lt_of_lt_of_le h1 hS.1) h2]; exact hS.2.1 q h1 h2, fun q hq => by
      rcases List.mem_append.mp hq with h | h
      · exact hS.2.2 q h
      · exact hf _ (hL q h)⟩ T' e1 X'
  exact ⟨t2, st t2 a1, b1⟩
end XC
section XH
variable {p : Program} {l : Launch} {e : Env} {R : Room} {s : State} {m : MethodId} {args : Array Value} {below : List Frame} {meth : Method} {c : Code} {H : Heap} {locs : List Loc} {cells slots : Nat} {Q : State → Prop}
variable {cc : ByteArray} {pc nL index : Nat} {ls : Array Slot} {rest : List Value} {own ref C : String} {G : x_G} {T : u_T} {N ci a : Nat} {fs : List Value} {A : Nat → Prop} {H0 : Heap}
theorem x_get (F : x_F p m c cc nL s args own) (hK : x_K G s) (hat : va_at G.1 x_cl (a, .inr (ci, fs)) H) (hc : x_cl[ci]? = some (C, T, N)) (hin : ∀ w ∈ u_ws C T N, w ∈ x_tb) (k : Nat) (hk : k < N) (kl : Cond.fieldLink own index ref (T k).2.1 (T k).2.2.1 ∈ x_tb) (hr : (T k).1 = ref) {v : Value} (hv : fs[k]? = some v) (hdg : decode cc pc = .ok (.getfield index, 3))
    (kk : W p l e R s m args below meth c H locs cells slots Q (F0 m (pc + 3) ls (v :: rest))) : W p l e R s m args below meth c H locs cells slots Q (F0 m pc ls (.ref a :: rest)) :=
  va_get F.1 F.2.1 F.2.2.2.2 hin F.2.2.2.1 hK.1 (x_one hat) 0 rfl hc k hk (F.2.2.2.2 _ kl) (fun x h => by rw [← hr]; exact h) hv hdg kk
theorem x_getN {host : String} (F : x_F p m c cc nL s args own) (hK : x_K G s) (hat : va_at G.1 x_cl (a, .inr (ci, fs)) H) (hc : x_cl[ci]? = some (C, T, N)) (hin : ∀ w ∈ u_ws C T N, w ∈ x_tb) (k : Nat) (hk : k < N) (i : Nat) (kl : x_nt[i]? = some (.fieldLinkNest own index ref (T k).2.1 (T k).2.2.1 host)) (hr : (T k).1 = ref) {v : Value} (hv : fs[k]? = some v) (hdg : decode cc pc = .ok (.getfield index, 3))
    (kk : W p l e R s m args below meth c H locs cells slots Q (F0 m (pc + 3) ls (v :: rest))) : W p l e R s m args below meth c H locs cells slots Q (F0 m pc ls (.ref a :: rest)) :=
  va_getN F.1 F.2.1 F.2.2.2.2 hin F.2.2.2.1 hK.1 (x_one hat) 0 rfl hc k hk (va_Nw.use rfl (hK.2.1 _ (List.mem_of_getElem? kl))) (fun x h => by rw [← hr]; exact h) hv hdg kk
theorem x_put (F : x_F p m c cc nL s args own) (hK : x_K G s) (hat : va_at G.1 x_cl (a, .inr (ci, fs)) H) (hc : x_cl[ci]? = some (C, T, N)) (hin : ∀ w ∈ u_ws C T N, w ∈ x_tb) (ty0 : Nat → FieldType) (hty : ∀ k, k < N → parseFieldDescriptor (T k).2.2.1 = some (ty0 k)) (hnm : ∀ a, a < N → ∀ b, b < N → a ≠ b → (T a).2.1 ≠ (T b).2.1) (k : Nat) (hk : k < N) (kl : Cond.fieldLink own index ref (T k).2.1 (T k).2.2.1 ∈ x_tb) (hr : (T k).1 = ref)
    (hfin : (T k).2.2.2 = false) {v : Value} (hn : narrow (ty0 k) v = v) (hfit : fits (ty0 k) v = true) (hl : k < fs.length) (hS : va_S A H0 H locs) (hA : A a) (hdg : decode cc pc = .ok (.putfield index, 3))
    (kk : ∀ (H1 : Heap) (locs1 : List Loc), va_at G.1 x_cl (a, .inr (ci, fs.set k v)) H1 → H1.size = H.size → (∀ q : Nat, q ≠ a → H1[q]? = H[q]?) → va_S A H0 H1 locs1 → W p l e R s m args below meth c H1 locs1 cells slots Q (F0 m (pc + 3) ls rest)) : W p l e R s m args below meth c H locs cells slots Q (F0 m pc ls (v :: .ref a :: rest)) := by
  obtain ⟨hexec, hb, hml, hown, hts⟩ := F
  have hap := va_apart (own := own) hts hin ty0 hty hnm hK.1 hc
  obtain ⟨r, h1, cell, q1, q2, q3, q4⟩ := hat
  have hr' : r = (C, T, N) := Option.some.inj (h1.symm.trans hc)
  subst hr'
  obtain ⟨hSl, hfc, kC, hkC, hkind⟩ := hK.1.1 ci _ hc
  obtain ⟨cf, kf, fi, f, hi, hsl⟩ := hSl k hk
  have hlay := hts _ (hin _ (u_in_lay hk))
  unfold u_lay at hlay
  rw [if_neg (by rw [hfin]; decide)] at hlay
  have hst := (u_facts hfc hkC (u_lays hts hin hk) hi).1
  have h6 := u_store hfc hkC hkind hlay hi (hty k hk) hn hfit
  refine W.putK hexec hb (f := f) ⟨hown, hts _ kl, ⟨_, _, _, by rw [← hr]; exact hi⟩, hst⟩ (by rw [q2]; exact h6) q1 q3 (by rw [hsl]; exact k2_hasslot (q4 k hk)) rfl rfl hdg fun H' e1 e2 e3 => ?_
  rw [hsl] at e1 ⊢
  exact kk H' _ ⟨_, hc, t_OB.to (V := updV (vp_V fs) k v) ⟨_, e1, q2, q3, t_set q4 hap hk v⟩ (fun j _ => vp_updV_set hl v j)⟩ e2 e3 (hS.put e2 e3 hA)
theorem x_putF (F : x_F p m c cc nL s args own) (hin2 : meth.name = "<init>") (hK : x_K G s) (hat : va_at G.1 x_cl (a, .inr (ci, fs)) H) (hc : x_cl[ci]? = some (C, T, N)) (hin : ∀ w ∈ u_ws C T N, w ∈ x_tb) (ty0 : Nat → FieldType) (hty : ∀ k, k < N → parseFieldDescriptor (T k).2.2.1 = some (ty0 k)) (hnm : ∀ a, a < N → ∀ b, b < N → a ≠ b → (T a).2.1 ≠ (T b).2.1) (k : Nat) (hk : k < N) (kl : Cond.fieldLink own index ref (T k).2.1 (T k).2.2.1 ∈ x_tb) (hr : (T k).1 = ref)
    (hfin : (T k).2.2.2 = true) (hdecl : (T k).1 = own) {v : Value} (hn : narrow (ty0 k) v = v) (hfit : fits (ty0 k) v = true) (hl : k < fs.length) (hS : va_S A H0 H locs) (hA : A a) (hdg : decode cc pc = .ok (.putfield index, 3))
    (kk : ∀ (H1 : Heap) (locs1 : List Loc), va_at G.1 x_cl (a, .inr (ci, fs.set k v)) H1 → H1.size = H.size → (∀ q : Nat, q ≠ a → H1[q]? = H[q]?) → va_S A H0 H1 locs1 → W p l e R s m args below meth c H1 locs1 cells slots Q (F0 m (pc + 3) ls rest)) : W p l e R s m args below meth c H locs cells slots Q (F0 m pc ls (v :: .ref a :: rest)) := by
  obtain ⟨hexec, hb, hml, hown, hts⟩ := F
  have hap := va_apart (own := own) hts hin ty0 hty hnm hK.1 hc
  obtain ⟨r, h1, cell, q1, q2, q3, q4⟩ := hat
  have hr' : r = (C, T, N) := Option.some.inj (h1.symm.trans hc)
  subst hr'
  obtain ⟨hSl, hfc, kC, hkC, hkind⟩ := hK.1.1 ci _ hc
  obtain ⟨cf, kf, fi, f, hi, hsl⟩ := hSl k hk
  have hlay := hts _ (hin _ (u_in_lay hk))
  unfold u_lay at hlay
  rw [if_pos hfin] at hlay
  have hst := (u_facts hfc hkC (u_lays hts hin hk) hi).1
  have hcf : m.cls = cf := by
    obtain ⟨_, _, c', _, _, _, -, -, hf', -, -, -, hown2, -⟩ := Cond.laysFinal_spec hlay
    have e1 : c' = cf := by have := hi.symm.trans hf'; simp at this; exact this.1.symm
    rw [hdecl] at hown2
    rw [← e1]; exact Option.some.inj (hown.symm.trans hown2)
  have h6 := u_fits hfc hkC hkind (Or.inr hlay) hi (hty k hk) hn hfit
  refine W.putFinK hexec hb hown (hts _ kl) (by rw [← hr]; exact hi) hst hcf hin2 (by rw [q2]; exact h6) q1 q3 (by rw [hsl]; exact k2_hasslot (q4 k hk)) rfl rfl hdg fun H' e1 e2 e3 => ?_
  rw [hsl] at e1 ⊢
  exact kk H' _ ⟨_, hc, t_OB.to (V := updV (vp_V fs) k v) ⟨_, e1, q2, q3, t_set q4 hap hk v⟩ (fun j _ => vp_updV_set hl v j)⟩ e2 e3 (hS.put e2 e3 hA)
/-! arrays -/
abbrev x_ai (G : x_G) (a n : Nat) (f : Nat → Int32) (H : Heap) : Prop := va_at G.1 x_cl (a, .inl (G.2.1, n, .inl f)) H
abbrev x_al (G : x_G) (a n : Nat) (f : Nat → Int64) (H : Heap) : Prop := va_at G.1 x_cl (a, .inl (G.2.2.1, n, .inr (.inl f))) H
abbrev x_az (G : x_G) (a n : Nat) (f : Nat → Int32) (H : Heap) : Prop := va_at G.1 x_cl (a, .inl (G.2.2.2.1, n, .inl f)) H
abbrev x_aq (G : x_G) (a n : Nat) (f : Nat → Option Nat) (H : Heap) : Prop := va_at G.1 x_cl (a, .inl (G.2.2.2.2, n, .inr (.inr (.inr (.inr f))))) H
theorem x_iald (F : x_F p m c cc nL s args own) (hK : x_K G s) {n : Nat} {f : Nat → Int32} (hat : x_ai G a n f H) {i : Int32} (hi : vp_in i n) (hdg : decode cc pc = .ok (.iaload, 1)) (kk : W p l e R s m args below meth c H locs cells slots Q (F0 m (pc + 1) ls (.int (f i.toNatClampNeg) :: rest))) : W p l e R s m args below meth c H locs cells slots Q (F0 m pc ls (.int i :: .ref a :: rest)) := va_iald F.1 F.2.1 hK.1 (x_one hat) 0 0 rfl rfl hi hdg kk
theorem x_lald (F : x_F p m c cc nL s args own) (hK : x_K G s) {n : Nat} {f : Nat → Int64} (hat : x_al G a n f H) {i : Int32} (hi : vp_in i n) (hdg : decode cc pc = .ok (.laload, 1)) (kk : W p l e R s m args below meth c H locs cells slots Q (F0 m (pc + 1) ls (.long (f i.toNatClampNeg) :: rest))) : W p l e R s m args below meth c H locs cells slots Q (F0 m pc ls (.int i :: .ref a :: rest)) := va_lald F.1 F.2.1 hK.1 (x_one hat) 0 1 rfl rfl hi hdg kk
theorem x_zald (F : x_F p m c cc nL s args own) (hK : x_K G s) {n : Nat} {f : Nat → Int32} (hat : x_az G a n f H) {i : Int32} (hi : vp_in i n) (hdg : decode cc pc = .ok (.baload, 1)) (kk : W p l e R s m args below meth c H locs cells slots Q (F0 m (pc + 1) ls (.int (f i.toNatClampNeg) :: rest))) : W p l e R s m args below meth c H locs cells slots Q (F0 m pc ls (.int i :: .ref a :: rest)) := va_zald F.1 F.2.1 hK.1 (x_one hat) 0 2 rfl rfl hi hdg kk
theorem x_qald (F : x_F p m c cc nL s args own) (hK : x_K G s) {n : Nat} {f : Nat → Option Nat} (hat : x_aq G a n f H) {i : Int32} (hi : vp_in i n) (hdg : decode cc pc = .ok (.aaload, 1)) (kk : W p l e R s m args below meth c H locs cells slots Q (F0 m (pc + 1) ls (va_rf (f i.toNatClampNeg) :: rest))) : W p l e R s m args below meth c H locs cells slots Q (F0 m pc ls (.int i :: .ref a :: rest)) := va_aldq F.1 F.2.1 hK.1 (x_one hat) 0 3 rfl rfl hi hdg kk
theorem x_alen (F : x_F p m c cc nL s args own) (hK : x_K G s) {cA : ClassId} {z : vp_A} (hat : va_at G.1 x_cl (a, .inl (cA, z)) H) (t0 : Nat) {ty : FieldType} (ht : (x_tys G)[t0]? = some (cA, ty)) (hdg : decode cc pc = .ok (.arraylength, 1)) (kk : W p l e R s m args below meth c H locs cells slots Q (F0 m (pc + 1) ls (.int (nI z.1) :: rest))) : W p l e R s m args below meth c H locs cells slots Q (F0 m pc ls (.ref a :: rest)) := va_alen F.1 F.2.1 hK.1 (x_one hat) 0 t0 rfl ht rfl hdg kk
theorem x_iast (F : x_F p m c cc nL s args own) (hK : x_K G s) {n : Nat} {f : Nat → Int32} (hat : x_ai G a n f H) {i x : Int32} (hi : vp_in i n) (hS : va_S A H0 H locs) (hA : A a) (hdg : decode cc pc = .ok (.iastore, 1))
    (kk : ∀ (H1 : Heap) (locs1 : List Loc), x_ai G a n (upd f i.toNatClampNeg x) H1 → H1.size = H.size → (∀ q : Nat, q ≠ a → H1[q]? = H[q]?) → va_S A H0 H1 locs1 → W p l e R s m args below meth c H1 locs1 cells slots Q (F0 m (pc + 1) ls rest)) : W p l e R s m args below meth c H locs cells slots Q (F0 m pc ls (.int x :: .int i :: .ref a :: rest)) := by
  refine W.iast F.1 F.2.1 hat ((hK.1.2 0 _ rfl).1 n (fun j => .int (f j))) (fun q => by cases q) (by show ¬ (i < 0 ∨ (arrV _ _ _).slots.size ≤ _); rw [arrV_size]; exact hi) rfl rfl hdg fun H1 e z oq => ?_
  refine kk H1 _ ?_ z oq (hS.put z oq hA)
  show H1[a]? = some (vp_cell _ _)
  rw [e, vp_cell_i, vp_cell_i, arrV_store]
  congr 2
  funext q
  by_cases hq : q = i.toNatClampNeg
  · subst hq
    simp [updV, upd]
  · simp [updV, upd, hq]
theorem x_zast (F : x_F p m c cc nL s args own) (hK : x_K G s) {n : Nat} {f : Nat → Int32} (hat : x_az G a n f H) {i x : Int32} (hx : vp_nar .boolean x = x) (hi : vp_in i n) (hS : va_S A H0 H locs) (hA : A a) (hdg : decode cc pc = .ok (.bastore, 1))
    (kk : ∀ (H1 : Heap) (locs1 : List Loc), x_az G a n (upd f i.toNatClampNeg x) H1 → H1.size = H.size → (∀ q : Nat, q ≠ a → H1[q]? = H[q]?) → va_S A H0 H1 locs1 → W p l e R s m args below meth c H1 locs1 cells slots Q (F0 m (pc + 1) ls rest)) : W p l e R s m args below meth c H locs cells slots Q (F0 m pc ls (.int x :: .int i :: .ref a :: rest)) := by
  refine W.zast F.1 F.2.1 hat ((hK.1.2 2 _ rfl).1 n (fun j => .int (f j))) (fun q => by cases q) (by show ¬ (i < 0 ∨ (arrV _ _ _).slots.size ≤ _); rw [arrV_size]; exact hi) rfl rfl hdg fun H1 e z oq => ?_
  refine kk H1 _ ?_ z oq (hS.put z oq hA)
  show H1[a]? = some (vp_cell _ _)
  rw [e, vp_cell_i, vp_cell_i, arrV_store]
  congr 2
  funext q
  by_cases hq : q = i.toNatClampNeg
  · subst hq
    have h2 : narrow .boolean (.int x) = .int x := by
      have h3 := hx
      unfold vp_nar at h3
      cases h4 : narrow .boolean (.int x) with
      | int z => rw [h4] at h3; rw [← h3]
      | _ => simp [narrow] at h4
    simp [updV, upd, h2]
  · simp [updV, upd, hq]
theorem x_last (F : x_F p m c cc nL s args own) (hK : x_K G s) {n : Nat} {f : Nat → Int64} (hat : x_al G a n f H) {i : Int32} {x : Int64} (hi : vp_in i n) (hS : va_S A H0 H locs) (hA : A a) (hdg : decode cc pc = .ok (.lastore, 1))
    (kk : ∀ (H1 : Heap) (locs1 : List Loc), x_al G a n (vp_updL f i.toNatClampNeg x) H1 → H1.size = H.size → (∀ q : Nat, q ≠ a → H1[q]? = H[q]?) → va_S A H0 H1 locs1 → W p l e R s m args below meth c H1 locs1 cells slots Q (F0 m (pc + 1) ls rest)) : W p l e R s m args below meth c H locs cells slots Q (F0 m pc ls (.long x :: .int i :: .ref a :: rest)) := by
  refine W.last F.1 F.2.1 hat ((hK.1.2 1 _ rfl).1 n (fun j => .long (f j))) (fun q => by cases q) (by show ¬ (i < 0 ∨ (arrV _ _ _).slots.size ≤ _); rw [arrV_size]; exact hi) rfl rfl hdg fun H1 e z oq => ?_
  refine kk H1 _ ?_ z oq (hS.put z oq hA)
  show H1[a]? = some (vp_cell _ _)
  rw [e, vp_cell_l, vp_cell_l, arrV_store]
  congr 2
  funext q
  by_cases hq : q = i.toNatClampNeg
  · subst hq
    simp [updV, vp_updL]
  · simp [updV, vp_updL, hq]
theorem x_cst (F : x_F p m c cc nL s args own) {v : Int64} (kl : Cond.constantLong own index v ∈ x_tb) (hdg : decode cc pc = .ok (.ldc2_w index, 3)) (k : W p l e R s m args below meth c H locs cells slots Q (F0 m (pc + 3) ls (.long v :: rest))) : W p l e R s m args below meth c H locs cells slots Q (F0 m pc ls rest) := lv_ldc2 F.1 F.2.1 F.2.2.2.1 (F.2.2.2.2 _ kl) hdg k
theorem x_ldc (F : x_F p m c cc nL s args own) {v : Int32} (kl : Cond.constant own index v ∈ x_tb) (hdg : decode cc pc = .ok (.ldc index, 2)) (k : W p l e R s m args below meth c H locs cells slots Q (F0 m (pc + 2) ls (.int v :: rest))) : W p l e R s m args below meth c H locs cells slots Q (F0 m pc ls rest) := lv_ldc F.1 F.2.1 F.2.2.2.1 (F.2.2.2.2 _ kl) hdg k
/-! new cells: the heap grows by one at its end -/
theorem x_newa (F : x_F p m c cc nL s args own) (hK : x_K G s) {atype : ArrayType} (ka : Cond.arrayClass (newarray.typeOf atype) ∈ x_tb) (t0 : Nat) {cA : ClassId} (ht : (x_tys G)[t0]? = some (cA, newarray.typeOf atype)) (hprim : va_RA s cA (newarray.typeOf atype) → s.vm.findClass ("[" ++ (newarray.typeOf atype).toString) = some cA) {n : Int32} {N' : Nat} {a0 : vp_A} (ha : ∀ cA : ClassId, vp_cell cA a0 = arrV cA N' (fun _ => defaultValue (newarray.typeOf atype))) (hn : ¬ n < 0) (hN : n.toNatClampNeg = N') (hbytes : N' * componentBytes (newarray.typeOf atype) ≤ 536870912) (hcells : cells + 1 ≤ R.cells) (hslots : slots + N' ≤ R.slots) (hS : va_S A H0 H locs) (hdg : decode cc pc = .ok (.newarray atype, 2))
    (kk : ∀ (H1 : Heap), va_at G.1 x_cl (H.size, .inl (cA, a0)) H1 → H1.size = H.size + 1 → (∀ q : Nat, q < H.size → H1[q]? = H[q]?) → va_S A H0 H1 locs → W p l e R s m args below meth c H1 locs (cells + 1) (slots + N') Q (F0 m (pc + 2) ls (.ref H.size :: rest))) : W p l e R s m args below meth c H locs cells slots Q (F0 m pc ls (.int n :: rest)) := by
  refine va_newaK F.1 F.2.1 (F.2.2.2.2 _ ka) rfl hdg rfl hn hN hbytes hcells hslots rfl fun H1 cA' e1 z1 o1 hAr hNm => ?_
  have hc : cA' = cA := Option.some.inj (hNm.symm.trans (hprim (hK.1.2 t0 _ ht).2))
  subst hc
  refine kk H1 ?_ z1 o1 ⟨by have := hS.1; omega, fun x h1 h2 => (o1 x (Nat.lt_of_lt_of_le h1 hS.1)).trans (hS.2.1 x h1 h2), hS.2.2⟩
  show H1[H.size]? = some (vp_cell _ _)
  rw [ha]
  exact e1
theorem x_new (F : x_F p m c cc nL s args own) (hK : x_K G s) (hc : x_cl[ci]? = some (C, T, N)) (hin : ∀ w ∈ u_ws C T N, w ∈ x_tb) (ty : Nat → FieldType) (hty : ∀ k, k < N → parseFieldDescriptor (T k).2.2.1 = some (ty k)) (kl : Cond.classLink own index C ∈ x_tb) (ki : Cond.instantiable C N ∈ x_tb) (kn : Cond.initialized C ∈ x_tb) (hfs : ∀ j, j < N → defaultValue (ty j) = vp_V fs j) (hcells : cells + 1 ≤ R.cells) (hslots : slots + N ≤ R.slots) (hS : va_S A H0 H locs) (hdg : decode cc pc = .ok (.new index, 3))
    (kk : ∀ (H1 : Heap), va_at G.1 x_cl (H.size, .inr (ci, fs)) H1 → H1.size = H.size + 1 → (∀ q : Nat, q < H.size → H1[q]? = H[q]?) → va_S A H0 H1 locs → W p l e R s m args below meth c H1 locs (cells + 1) (slots + N) Q (F0 m (pc + 3) ls (.ref H.size :: rest))) : W p l e R s m args below meth c H locs cells slots Q (F0 m pc ls rest) := by
  obtain ⟨hexec, hb, hml, hown, hts⟩ := F
  have hKn := hK.1.1 ci _ hc
  refine W.newcK hexec hb hown (hts _ kl) (hts _ ki) (hts _ kn) rfl hdg hcells hslots hKn.2.1 rfl fun H1 kC hkC e1 z1 o1 => ?_
  exact kk H1 ⟨_, hc, (u_born ty hts hin hKn hkC e1 hty).to hfs⟩ z1 o1 ⟨by have := hS.1; omega, fun x h1 h2 => (o1 x (Nat.lt_of_lt_of_le h1 hS.1)).trans (hS.2.1 x h1 h2), hS.2.2⟩
theorem x_oi (F : x_F p m c cc nL s args own) (kl : Cond.methodLink own index Lib.objectInit ∈ x_tb) (hsize : ls.size = nL) (hdg : decode cc pc = .ok (.invokespecial index, 3)) (hframes : 1 ≤ R.frames) (hlocals : (rest.map fun v => v.category).sum + 12 ≤ R.locals)
    (kk : W p l e R s m args below meth c H locs cells slots Q (F0 m (pc + 3) ls rest)) : W p l e R s m args below meth c H locs cells slots Q (F0 m pc ls (.ref a :: rest)) :=
  W.objInit F.1 F.2.1 F.2.2.2.1 (F.2.2.2.2 _ kl) (F.2.2.2.2 _ k23) (F.2.2.2.2 _ k24) rfl (by rw [F.2.2.1]; exact hsize) rfl hdg hframes (by show 2 * 0 + _ + _ ≤ _; omega) kk
end XH
end
section
/-! ===== contracts out of walks: the end of the method is a hypothesis on any Q, so that loops can be said ===== -/
def x_b (b : Bool) : Int32 := match b with | true => 1 | false => 0
theorem x_b_nar (b : Bool) : narrow .boolean (.int (x_b b)) = .int (x_b b) := by cases b <;> decide +kernel
section XM
variable {l : Launch} {y : MethodName} {rm : Room} {mc ms : Nat} {A : Addr → Prop} {cc : ByteArray} {maxL : Nat} {G : x_G} {av : List Value} {PRE : Heap → Prop} {POST : Option Value → Heap → Heap → Prop}
theorem x_mI {r : Int32} (hy : plainFor y = true) (hlen : (lg_sl av).length ≤ maxL)
    (body : ∀ (p : Program) (e : Env) (s : State) (m : MethodId) (args : Array Value) (below : List Frame) (meth : Method) (c : Code), x_F p m c cc maxL s args y.cls → x_K G s → PRE s.heap → ∀ ls : Array Slot, lv_has ls maxL (lv_args 0 av) → ∀ Q : State → Prop,
      (∀ (pc : Nat) (ls' : Array Slot) (v : Int32), decode cc pc = .ok (.ireturn, 1) → v = r → W p l e rm s m args below meth c s.heap [] 0 0 Q (F0 m pc ls' [.int v])) → W p l e rm s m args below meth c s.heap [] 0 0 Q (F0 m 0 ls [])) :
    Met l y (x_ws y cc maxL (some .int)) rm (x_P G av PRE) (k2_QcV (.int r)) 0 0 (fun _ => False) :=
  x_met hy hlen fun p e s m below meth c hx hb hr hml hown hts hlocks hnm hK hP ls hl => body p e s m _ below meth c ⟨hx, hb, hml, hown, hts⟩ hK hP ls hl _ fun pc ls' v hd hv =>
    W.iret hx hb hr (fun t ht _ => ⟨by rw [hv], ht⟩) (fun q h => absurd h List.not_mem_nil) hd hlocks
theorem x_mL {r : Int64} (hy : plainFor y = true) (hlen : (lg_sl av).length ≤ maxL)
    (body : ∀ (p : Program) (e : Env) (s : State) (m : MethodId) (args : Array Value) (below : List Frame) (meth : Method) (c : Code), x_F p m c cc maxL s args y.cls → x_K G s → PRE s.heap → ∀ ls : Array Slot, lv_has ls maxL (lv_args 0 av) → ∀ Q : State → Prop,
      (∀ (pc : Nat) (ls' : Array Slot) (v : Int64), decode cc pc = .ok (.lreturn, 1) → v = r → W p l e rm s m args below meth c s.heap [] 0 0 Q (F0 m pc ls' [.long v])) → W p l e rm s m args below meth c s.heap [] 0 0 Q (F0 m 0 ls [])) :
    Met l y (x_ws y cc maxL (some .long)) rm (x_P G av PRE) (k2_QcV (.long r)) 0 0 (fun _ => False) :=
  x_met hy hlen fun p e s m below meth c hx hb hr hml hown hts hlocks hnm hK hP ls hl => body p e s m _ below meth c ⟨hx, hb, hml, hown, hts⟩ hK hP ls hl _ fun pc ls' v hd hv =>
    W.lret hx hb hr (fun t ht _ => ⟨by rw [hv], ht⟩) (fun q h => absurd h List.not_mem_nil) hd hlocks
theorem x_mZ {r : Bool} (hy : plainFor y = true) (hlen : (lg_sl av).length ≤ maxL)
    (body : ∀ (p : Program) (e : Env) (s : State) (m : MethodId) (args : Array Value) (below : List Frame) (meth : Method) (c : Code), x_F p m c cc maxL s args y.cls → x_K G s → PRE s.heap → ∀ ls : Array Slot, lv_has ls maxL (lv_args 0 av) → ∀ Q : State → Prop,
      (∀ (pc : Nat) (ls' : Array Slot) (v : Int32), decode cc pc = .ok (.ireturn, 1) → v = x_b r → W p l e rm s m args below meth c s.heap [] 0 0 Q (F0 m pc ls' [.int v])) → W p l e rm s m args below meth c s.heap [] 0 0 Q (F0 m 0 ls [])) :
    Met l y (x_ws y cc maxL (some .boolean)) rm (x_P G av PRE) (k2_QcV (.int (x_b r))) 0 0 (fun _ => False) :=
  x_met hy hlen fun p e s m below meth c hx hb hr hml hown hts hlocks hnm hK hP ls hl => body p e s m _ below meth c ⟨hx, hb, hml, hown, hts⟩ hK hP ls hl _ fun pc ls' v hd hv =>
    W.zret hx hb hr (by rw [hv]; exact x_b_nar r) (fun t ht _ => ⟨by rw [hv], ht⟩) (fun q h => absurd h List.not_mem_nil) hd hlocks
theorem x_mA {r : Value} {rt : FieldType} (hrt : (∃ n, rt = .object n) ∨ ∃ t, rt = .array t) (hrv : r = .null ∨ ∃ a, r = .ref a) (hy : plainFor y = true) (hlen : (lg_sl av).length ≤ maxL)
    (body : ∀ (p : Program) (e : Env) (s : State) (m : MethodId) (args : Array Value) (below : List Frame) (meth : Method) (c : Code), x_F p m c cc maxL s args y.cls → x_K G s → PRE s.heap → ∀ ls : Array Slot, lv_has ls maxL (lv_args 0 av) → ∀ Q : State → Prop,
      (∀ (pc : Nat) (ls' : Array Slot) (v : Value), decode cc pc = .ok (.areturn, 1) → v = r → W p l e rm s m args below meth c s.heap [] 0 0 Q (F0 m pc ls' [v])) → W p l e rm s m args below meth c s.heap [] 0 0 Q (F0 m 0 ls [])) :
    Met l y (x_ws y cc maxL (some rt)) rm (x_P G av PRE) (k2_QcV r) 0 0 (fun _ => False) :=
  x_met hy hlen fun p e s m below meth c hx hb hr hml hown hts hlocks hnm hK hP ls hl => body p e s m _ below meth c ⟨hx, hb, hml, hown, hts⟩ hK hP ls hl _ fun pc ls' v hd hv =>
    W.aret hx hb hr hrt (by rw [hv]; exact hrv) (fun t ht _ => ⟨by rw [hv], ht⟩) (fun q h => absurd h List.not_mem_nil) hd hlocks
/-! those that write -/
theorem x_wI (hy : plainFor y = true) (hlen : (lg_sl av).length ≤ maxL)
    (body : ∀ (p : Program) (e : Env) (s : State) (m : MethodId) (args : Array Value) (below : List Frame) (meth : Method) (c : Code), x_F p m c cc maxL s args y.cls → x_K G s → PRE s.heap → ∀ ls : Array Slot, lv_has ls maxL (lv_args 0 av) → ∀ Q : State → Prop,
      (∀ (pc : Nat) (ls' : Array Slot) (v : Int32) (H : Heap) (locs : List Loc) (cells slots : Nat), decode cc pc = .ok (.ireturn, 1) → POST (some (.int v)) s.heap H → (∀ q ∈ locs, A q.base) → cells ≤ mc → slots ≤ ms → W p l e rm s m args below meth c H locs cells slots Q (F0 m pc ls' [.int v])) → W p l e rm s m args below meth c s.heap [] 0 0 Q (F0 m 0 ls [])) :
    Met l y (x_ws y cc maxL (some .int)) rm (x_P G av PRE) (x_Q POST) mc ms A :=
  x_met hy hlen fun p e s m below meth c hx hb hr hml hown hts hlocks hnm hK hP ls hl => body p e s m _ below meth c ⟨hx, hb, hml, hown, hts⟩ hK hP ls hl _ fun pc ls' v H locs cells slots hd hp hf h1 h2 =>
    W.widen h1 h2 (W.iret hx hb hr (fun t ht _ => ⟨_, rfl, by rw [ht]; exact hp⟩) hf hd hlocks)
theorem x_wZ (hy : plainFor y = true) (hlen : (lg_sl av).length ≤ maxL)
    (body : ∀ (p : Program) (e : Env) (s : State) (m : MethodId) (args : Array Value) (below : List Frame) (meth : Method) (c : Code), x_F p m c cc maxL s args y.cls → x_K G s → PRE s.heap → ∀ ls : Array Slot, lv_has ls maxL (lv_args 0 av) → ∀ Q : State → Prop,
      (∀ (pc : Nat) (ls' : Array Slot) (v : Int32) (b : Bool) (H : Heap) (locs : List Loc) (cells slots : Nat), decode cc pc = .ok (.ireturn, 1) → v = x_b b → POST (some (.int (x_b b))) s.heap H → (∀ q ∈ locs, A q.base) → cells ≤ mc → slots ≤ ms → W p l e rm s m args below meth c H locs cells slots Q (F0 m pc ls' [.int v])) → W p l e rm s m args below meth c s.heap [] 0 0 Q (F0 m 0 ls [])) :
    Met l y (x_ws y cc maxL (some .boolean)) rm (x_P G av PRE) (x_Q POST) mc ms A :=
  x_met hy hlen fun p e s m below meth c hx hb hr hml hown hts hlocks hnm hK hP ls hl => body p e s m _ below meth c ⟨hx, hb, hml, hown, hts⟩ hK hP ls hl _ fun pc ls' v b H locs cells slots hd hv hp hf h1 h2 =>
    W.widen h1 h2 (W.zret hx hb hr (by rw [hv]; exact x_b_nar b) (fun t ht _ => ⟨_, by rw [hv], by rw [ht]; exact hp⟩) hf hd hlocks)
theorem x_wV (hy : plainFor y = true) (hlen : (lg_sl av).length ≤ maxL)
    (body : ∀ (p : Program) (e : Env) (s : State) (m : MethodId) (args : Array Value) (below : List Frame) (meth : Method) (c : Code), x_F p m c cc maxL s args y.cls → meth.name = y.name → x_K G s → PRE s.heap → ∀ ls : Array Slot, lv_has ls maxL (lv_args 0 av) → ∀ Q : State → Prop,
      (∀ (pc : Nat) (ls' : Array Slot) (H : Heap) (locs : List Loc) (cells slots : Nat), decode cc pc = .ok (.return_, 1) → POST none s.heap H → (∀ q ∈ locs, A q.base) → cells ≤ mc → slots ≤ ms → W p l e rm s m args below meth c H locs cells slots Q (F0 m pc ls' [])) → W p l e rm s m args below meth c s.heap [] 0 0 Q (F0 m 0 ls [])) :
    Met l y (x_ws y cc maxL none) rm (x_P G av PRE) (x_Q POST) mc ms A :=
  x_met hy hlen fun p e s m below meth c hx hb hr hml hown hts hlocks hnm hK hP ls hl => body p e s m _ below meth c ⟨hx, hb, hml, hown, hts⟩ hnm hK hP ls hl _ fun pc ls' H locs cells slots hd hp hf h1 h2 =>
    W.widen h1 h2 (W.vret hx hb hr (fun t ht _ => ⟨_, rfl, by rw [ht]; exact hp⟩) hf hd hlocks)
theorem x_wA {rt : FieldType} (hrt : (∃ n, rt = .object n) ∨ ∃ t, rt = .array t) (hy : plainFor y = true) (hlen : (lg_sl av).length ≤ maxL)
    (body : ∀ (p : Program) (e : Env) (s : State) (m : MethodId) (args : Array Value) (below : List Frame) (meth : Method) (c : Code), x_F p m c cc maxL s args y.cls → x_K G s → PRE s.heap → ∀ ls : Array Slot, lv_has ls maxL (lv_args 0 av) → ∀ Q : State → Prop,
      (∀ (pc : Nat) (ls' : Array Slot) (v : Nat) (H : Heap) (locs : List Loc) (cells slots : Nat), decode cc pc = .ok (.areturn, 1) → POST (some (.ref v)) s.heap H → (∀ q ∈ locs, A q.base) → cells ≤ mc → slots ≤ ms → W p l e rm s m args below meth c H locs cells slots Q (F0 m pc ls' [.ref v])) → W p l e rm s m args below meth c s.heap [] 0 0 Q (F0 m 0 ls [])) :
    Met l y (x_ws y cc maxL (some rt)) rm (x_P G av PRE) (x_Q POST) mc ms A :=
  x_met hy hlen fun p e s m below meth c hx hb hr hml hown hts hlocks hnm hK hP ls hl => body p e s m _ below meth c ⟨hx, hb, hml, hown, hts⟩ hK hP ls hl _ fun pc ls' v H locs cells slots hd hp hf h1 h2 =>
    W.widen h1 h2 (W.aret hx hb hr hrt (Or.inr ⟨_, rfl⟩) (fun t ht _ => ⟨_, rfl, by rw [ht]; exact hp⟩) hf hd hlocks)
end XM
/-! places by numbers -/
section XN
variable {p : Program} {l : Launch} {e : Env} {R : Room} {s : State} {m : MethodId} {args : Array Value} {below : List Frame} {meth : Method} {c : Code} {H : Heap} {locs : List Loc} {cells slots : Nat} {Q : State → Prop}
variable {cc : ByteArray} {pc nL index : Nat} {ls : Array Slot} {rest : List Value} {own : String} {G : x_G} {a : Nat} {A : Nat → Prop} {H0 : Heap}
theorem x_ialdN (F : x_F p m c cc nL s args own) (hK : x_K G s) {n : Nat} {f : Nat → Int32} (hat : x_ai G a n f H) (hn : n < 2 ^ 31) {i : Nat} (hi : i < n) (hdg : decode cc pc = .ok (.iaload, 1)) (kk : W p l e R s m args below meth c H locs cells slots Q (F0 m (pc + 1) ls (.int (f i) :: rest))) : W p l e R s m args below meth c H locs cells slots Q (F0 m pc ls (.int (nI i) :: .ref a :: rest)) :=
  x_iald F hK hat (vp_in_nI hi hn) hdg (by rw [nI_clamp (by omega)]; exact kk)
theorem x_laldN (F : x_F p m c cc nL s args own) (hK : x_K G s) {n : Nat} {f : Nat → Int64} (hat : x_al G a n f H) (hn : n < 2 ^ 31) {i : Nat} (hi : i < n) (hdg : decode cc pc = .ok (.laload, 1)) (kk : W p l e R s m args below meth c H locs cells slots Q (F0 m (pc + 1) ls (.long (f i) :: rest))) : W p l e R s m args below meth c H locs cells slots Q (F0 m pc ls (.int (nI i) :: .ref a :: rest)) :=
  x_lald F hK hat (vp_in_nI hi hn) hdg (by rw [nI_clamp (by omega)]; exact kk)
theorem x_zaldN (F : x_F p m c cc nL s args own) (hK : x_K G s) {n : Nat} {f : Nat → Int32} (hat : x_az G a n f H) (hn : n < 2 ^ 31) {i : Nat} (hi : i < n) (hdg : decode cc pc = .ok (.baload, 1)) (kk : W p l e R s m args below meth c H locs cells slots Q (F0 m (pc + 1) ls (.int (f i) :: rest))) : W p l e R s m args below meth c H locs cells slots Q (F0 m pc ls (.int (nI i) :: .ref a :: rest)) :=
  x_zald F hK hat (vp_in_nI hi hn) hdg (by rw [nI_clamp (by omega)]; exact kk)
theorem x_qaldN (F : x_F p m c cc nL s args own) (hK : x_K G s) {n : Nat} {f : Nat → Option Nat} (hat : x_aq G a n f H) (hn : n < 2 ^ 31) {i : Nat} (hi : i < n) (hdg : decode cc pc = .ok (.aaload, 1)) (kk : W p l e R s m args below meth c H locs cells slots Q (F0 m (pc + 1) ls (va_rf (f i) :: rest))) : W p l e R s m args below meth c H locs cells slots Q (F0 m pc ls (.int (nI i) :: .ref a :: rest)) :=
  x_qald F hK hat (vp_in_nI hi hn) hdg (by rw [nI_clamp (by omega)]; exact kk)
theorem x_iastN (F : x_F p m c cc nL s args own) (hK : x_K G s) {n : Nat} {f : Nat → Int32} (hat : x_ai G a n f H) {x : Int32} (hn : n < 2 ^ 31) {i : Nat} (hi : i < n) (hS : va_S A H0 H locs) (hA : A a) (hdg : decode cc pc = .ok (.iastore, 1))
    (kk : ∀ (H1 : Heap) (locs1 : List Loc), x_ai G a n (upd f i x) H1 → H1.size = H.size → (∀ q : Nat, q ≠ a → H1[q]? = H[q]?) → va_S A H0 H1 locs1 → W p l e R s m args below meth c H1 locs1 cells slots Q (F0 m (pc + 1) ls rest)) : W p l e R s m args below meth c H locs cells slots Q (F0 m pc ls (.int x :: .int (nI i) :: .ref a :: rest)) :=
  x_iast F hK hat (vp_in_nI hi hn) hS hA hdg (by rw [nI_clamp (by omega)]; exact kk)
theorem x_zastN (F : x_F p m c cc nL s args own) (hK : x_K G s) {n : Nat} {f : Nat → Int32} (hat : x_az G a n f H) {x : Int32} (hx : vp_nar .boolean x = x) (hn : n < 2 ^ 31) {i : Nat} (hi : i < n) (hS : va_S A H0 H locs) (hA : A a) (hdg : decode cc pc = .ok (.bastore, 1))
    (kk : ∀ (H1 : Heap) (locs1 : List Loc), x_az G a n (upd f i x) H1 → H1.size = H.size → (∀ q : Nat, q ≠ a → H1[q]? = H[q]?) → va_S A H0 H1 locs1 → W p l e R s m args below meth c H1 locs1 cells slots Q (F0 m (pc + 1) ls rest)) : W p l e R s m args below meth c H locs cells slots Q (F0 m pc ls (.int x :: .int (nI i) :: .ref a :: rest)) :=
  x_zast F hK hat hx (vp_in_nI hi hn) hS hA hdg (by rw [nI_clamp (by omega)]; exact kk)
theorem x_lastN (F : x_F p m c cc nL s args own) (hK : x_K G s) {n : Nat} {f : Nat → Int64} (hat : x_al G a n f H) {x : Int64} (hn : n < 2 ^ 31) {i : Nat} (hi : i < n) (hS : va_S A H0 H locs) (hA : A a) (hdg : decode cc pc = .ok (.lastore, 1))
    (kk : ∀ (H1 : Heap) (locs1 : List Loc), x_al G a n (vp_updL f i x) H1 → H1.size = H.size → (∀ q : Nat, q ≠ a → H1[q]? = H[q]?) → va_S A H0 H1 locs1 → W p l e R s m args below meth c H1 locs1 cells slots Q (F0 m (pc + 1) ls rest)) : W p l e R s m args below meth c H locs cells slots Q (F0 m pc ls (.long x :: .int (nI i) :: .ref a :: rest)) :=
  x_last F hK hat (vp_in_nI hi hn) hS hA hdg (by rw [nI_clamp (by omega)]; exact kk)
end XN
theorem lg_cmp_0 {x y : Int64} : lg_cmp x y = 0 ↔ x = y := by
  unfold lg_cmp
  constructor
  · intro h
    by_cases h1 : x = y
    · exact h1
    · exfalso
      revert h
      simp only [h1]
      split <;> simp_all
  · intro h
    subst h
    simp
theorem x_b_0 {b : Bool} : x_b b = 0 ↔ b = false := by cases b <;> decide +kernel
section XL
variable {p : Program} {l : Launch} {e : Env} {R : Room} {s : State} {m : MethodId} {args : Array Value} {below : List Frame} {meth : Method} {c : Code} {H : Heap} {locs : List Loc} {cells slots : Nat} {Q : State → Prop}
variable {cc : ByteArray} {pc nL index : Nat} {ls : Array Slot} {rest : List Value} {own : String} {G : x_G} {A : Nat → Prop} {H0 : Heap}
theorem x_lne (F : x_F p m c cc nL s args own) {x y : Int64} {off : Int} {tgt : Nat} (hd1 : decode cc pc = .ok (.lcmp, 1)) (hd2 : decode cc (pc + 1) = .ok (.ifCond .ne off, 3)) (ht : ((pc + 1 : Nat) : Int) + off = (tgt : Int)) (kt : ¬ x = y → W p l e R s m args below meth c H locs cells slots Q (F0 m tgt ls rest)) (kf : x = y → W p l e R s m args below meth c H locs cells slots Q (F0 m (pc + 1 + 3) ls rest)) : W p l e R s m args below meth c H locs cells slots Q (F0 m pc ls (.long y :: .long x :: rest)) :=
  W.lcmp F.1 F.2.1 hd1 (lv_if_ne F.1 F.2.1 hd2 ht (fun h => kt (fun q => h (lg_cmp_0.mpr q))) (fun h => kf (lg_cmp_0.mp h)))
theorem x_leq (F : x_F p m c cc nL s args own) {x y : Int64} {off : Int} {tgt : Nat} (hd1 : decode cc pc = .ok (.lcmp, 1)) (hd2 : decode cc (pc + 1) = .ok (.ifCond .eq off, 3)) (ht : ((pc + 1 : Nat) : Int) + off = (tgt : Int)) (kt : x = y → W p l e R s m args below meth c H locs cells slots Q (F0 m tgt ls rest)) (kf : ¬ x = y → W p l e R s m args below meth c H locs cells slots Q (F0 m (pc + 1 + 3) ls rest)) : W p l e R s m args below meth c H locs cells slots Q (F0 m pc ls (.long y :: .long x :: rest)) :=
  W.lcmp F.1 F.2.1 hd1 (lv_if_eq F.1 F.2.1 hd2 ht (fun h => kt (lg_cmp_0.mp h)) (fun h => kf (fun q => h (lg_cmp_0.mpr q))))
theorem x_beq (F : x_F p m c cc nL s args own) {b : Bool} {off : Int} {tgt : Nat} (hdg : decode cc pc = .ok (.ifCond .eq off, 3)) (ht : (pc : Int) + off = (tgt : Int)) (kt : b = false → W p l e R s m args below meth c H locs cells slots Q (F0 m tgt ls rest)) (kf : b = true → W p l e R s m args below meth c H locs cells slots Q (F0 m (pc + 3) ls rest)) : W p l e R s m args below meth c H locs cells slots Q (F0 m pc ls (.int (x_b b) :: rest)) :=
  lv_if_eq F.1 F.2.1 hdg ht (fun h => kt (x_b_0.mp h)) (fun h => kf (by cases b; exact absurd rfl h; rfl))
theorem x_bne (F : x_F p m c cc nL s args own) {b : Bool} {off : Int} {tgt : Nat} (hdg : decode cc pc = .ok (.ifCond .ne off, 3)) (ht : (pc : Int) + off = (tgt : Int)) (kt : b = true → W p l e R s m args below meth c H locs cells slots Q (F0 m tgt ls rest)) (kf : b = false → W p l e R s m args below meth c H locs cells slots Q (F0 m (pc + 3) ls rest)) : W p l e R s m args below meth c H locs cells slots Q (F0 m pc ls (.int (x_b b) :: rest)) :=
  lv_if_ne F.1 F.2.1 hdg ht (fun h => kt (by cases b; exact absurd rfl h; rfl)) (fun h => kf (x_b_0.mp h))
end XL
end
section
theorem ok_IS_init : x_okI y_IS_init b_IS_init 1 0 := ⟨k21, k20, k1, by decide +kernel, ⟨by decide +kernel, by decide +kernel, by decide +kernel⟩⟩
theorem ok_AL_init : x_okI y_AL_init b_AL_init 1 0 := ⟨k29, k28, k4, by decide +kernel, ⟨by decide +kernel, by decide +kernel, by decide +kernel⟩⟩
theorem ok_AB_init : x_okI y_AB_init b_AB_init 1 0 := ⟨k32, k31, k3, by decide +kernel, ⟨by decide +kernel, by decide +kernel, by decide +kernel⟩⟩
theorem ok_AC_init : x_okI y_AC_init b_AC_init 1 0 := ⟨k35, k34, k2, by decide +kernel, ⟨by decide +kernel, by decide +kernel, by decide +kernel⟩⟩
theorem ok_ST_init : x_okI y_ST_init b_ST_init 1 0 := ⟨k55, k54, k5, by decide +kernel, ⟨by decide +kernel, by decide +kernel, by decide +kernel⟩⟩
theorem ok_AR_fillI : x_okS y_AR_fillI b_AR_fillI 4 none 2 := ⟨k59, k58, k6, ⟨by decide +kernel, by decide +kernel, by decide +kernel⟩⟩
theorem ok_TR_init : x_okI y_TR_init b_TR_init 1 0 := ⟨k73, k72, k7, by decide +kernel, ⟨by decide +kernel, by decide +kernel, by decide +kernel⟩⟩
theorem ok_AR_fillJ : x_okS y_AR_fillJ b_AR_fillJ 5 none 2 := ⟨k78, k77, k6, ⟨by decide +kernel, by decide +kernel, by decide +kernel⟩⟩
theorem ok_IM_init : x_okI y_IM_init b_IM_init 4 3 := ⟨k89, k88, k8, by decide +kernel, ⟨by decide +kernel, by decide +kernel, by decide +kernel⟩⟩
theorem ok_AL_add1 : x_okV y_AL_add1 b_AL_add1 2 (some .boolean) 1 := ⟨k107, k105, k106, k4, ⟨by decide +kernel, by decide +kernel, by decide +kernel⟩⟩
theorem ok_AL_add3 : x_okV y_AL_add3 b_AL_add3 4 none 3 := ⟨k111, k110, s_AL_add3, k4, ⟨by decide +kernel, by decide +kernel, by decide +kernel⟩⟩
theorem ok_AL_grow0 : x_okV y_AL_grow0 b_AL_grow0 1 (some (.array (.object "java/lang/Object"))) 0 := ⟨k115, k114, s_AL_grow0, k4, ⟨by decide +kernel, by decide +kernel, by decide +kernel⟩⟩
theorem ok_AL_growI : x_okV y_AL_growI b_AL_growI 4 (some (.array (.object "java/lang/Object"))) 1 := ⟨k119, k118, s_AL_growI, k4, ⟨by decide +kernel, by decide +kernel, by decide +kernel⟩⟩
theorem ok_SU_newLength : x_okS y_SU_newLength b_SU_newLength 4 (some .int) 3 := ⟨k122, k121, k9, ⟨by decide +kernel, by decide +kernel, by decide +kernel⟩⟩
theorem ok_MA_max : x_okS y_MA_max b_MA_max 2 (some .int) 2 := ⟨k125, k124, k10, ⟨by decide +kernel, by decide +kernel, by decide +kernel⟩⟩
theorem ok_SU_hugeLength : x_okS y_SU_hugeLength b_SU_hugeLength 3 (some .int) 2 := ⟨k129, k128, k9, ⟨by decide +kernel, by decide +kernel, by decide +kernel⟩⟩
theorem ok_AR_copyOf2 : x_okS y_AR_copyOf2 b_AR_copyOf2 2 (some (.array (.object "java/lang/Object"))) 2 := ⟨k132, k131, k6, ⟨by decide +kernel, by decide +kernel, by decide +kernel⟩⟩
theorem ok_AR_copyOf3 : x_okS y_AR_copyOf3 b_AR_copyOf3 4 (some (.array (.object "java/lang/Object"))) 3 := ⟨k146, k145, k6, ⟨by decide +kernel, by decide +kernel, by decide +kernel⟩⟩
theorem ok_MA_min : x_okS y_MA_min b_MA_min 2 (some .int) 2 := ⟨k152, k151, k10, ⟨by decide +kernel, by decide +kernel, by decide +kernel⟩⟩
theorem ok_IS_build : x_okV y_IS_build b_IS_build 5 (some .int) 4 := ⟨k183, k181, k182, k1, ⟨by decide +kernel, by decide +kernel, by decide +kernel⟩⟩
theorem ok_IS_isMade : x_okV y_IS_isMade b_IS_isMade 2 (some .boolean) 1 := ⟨k187, k186, s_IS_isMade, k1, ⟨by decide +kernel, by decide +kernel, by decide +kernel⟩⟩
theorem ok_AL_size : x_okV y_AL_size b_AL_size 1 (some .int) 0 := ⟨k191, k189, k190, k4, ⟨by decide +kernel, by decide +kernel, by decide +kernel⟩⟩
theorem ok_ST_holds : x_okV y_ST_holds b_ST_holds 2 (some .boolean) 1 := ⟨k195, k193, k194, k5, ⟨by decide +kernel, by decide +kernel, by decide +kernel⟩⟩
theorem ok_AL_get : x_okV y_AL_get b_AL_get 2 (some (.object "java/lang/Object")) 1 := ⟨k199, k197, k198, k4, ⟨by decide +kernel, by decide +kernel, by decide +kernel⟩⟩
theorem ok_OB_checkIndex : x_okS y_OB_checkIndex b_OB_checkIndex 2 (some .int) 2 := ⟨k202, k201, k13, ⟨by decide +kernel, by decide +kernel, by decide +kernel⟩⟩
theorem ok_PR_checkIndex : x_okS y_PR_checkIndex b_PR_checkIndex 3 (some .int) 3 := ⟨k205, k204, k14, ⟨by decide +kernel, by decide +kernel, by decide +kernel⟩⟩
theorem ok_AL_elementData : x_okV y_AL_elementData b_AL_elementData 2 (some (.object "java/lang/Object")) 1 := ⟨k209, k207, k208, k4, ⟨by decide +kernel, by decide +kernel, by decide +kernel⟩⟩
theorem ok_TR_become : x_okV y_TR_become b_TR_become 2 none 1 := ⟨k213, k211, k212, k7, ⟨by decide +kernel, by decide +kernel, by decide +kernel⟩⟩
theorem ok_TR_change : x_okV y_TR_change b_TR_change 4 (some .boolean) 3 := ⟨k218, k216, k217, k7, ⟨by decide +kernel, by decide +kernel, by decide +kernel⟩⟩
theorem ok_PA_isLegal : x_okS y_PA_isLegal b_PA_isLegal 4 (some .boolean) 1 := ⟨k221, k220, k15, ⟨by decide +kernel, by decide +kernel, by decide +kernel⟩⟩
theorem ok_TR_writeFile : x_okV y_TR_writeFile b_TR_writeFile 3 (some .boolean) 2 := ⟨k225, k224, s_TR_writeFile, k7, ⟨by decide +kernel, by decide +kernel, by decide +kernel⟩⟩
theorem ok_TR_liesBelowFile : x_okV y_TR_liesBelowFile b_TR_liesBelowFile 3 (some .boolean) 1 := ⟨k229, k228, s_TR_liesBelowFile, k7, ⟨by decide +kernel, by decide +kernel, by decide +kernel⟩⟩
theorem ok_PA_parent : x_okS y_PA_parent b_PA_parent 1 (some .int) 1 := ⟨k232, k231, k15, ⟨by decide +kernel, by decide +kernel, by decide +kernel⟩⟩
theorem ok_PA_names : x_okS y_PA_names b_PA_names 1 (some .int) 1 := ⟨k235, k234, k15, ⟨by decide +kernel, by decide +kernel, by decide +kernel⟩⟩
theorem ok_TR_isFile : x_okV y_TR_isFile b_TR_isFile 2 (some .boolean) 1 := ⟨k239, k238, s_TR_isFile, k7, ⟨by decide +kernel, by decide +kernel, by decide +kernel⟩⟩
theorem ok_TR_makeAllAbove : x_okV y_TR_makeAllAbove b_TR_makeAllAbove 3 none 1 := ⟨k243, k242, s_TR_makeAllAbove, k7, ⟨by decide +kernel, by decide +kernel, by decide +kernel⟩⟩
theorem ok_TR_makeDirectory : x_okV y_TR_makeDirectory b_TR_makeDirectory 2 (some .boolean) 1 := ⟨k247, k246, s_TR_makeDirectory, k7, ⟨by decide +kernel, by decide +kernel, by decide +kernel⟩⟩
theorem ok_TR_removeAll : x_okV y_TR_removeAll b_TR_removeAll 4 (some .boolean) 1 := ⟨k251, k250, s_TR_removeAll, k7, ⟨by decide +kernel, by decide +kernel, by decide +kernel⟩⟩
theorem ok_PA_end : x_okS y_PA_end b_PA_end 1 (some .int) 1 := ⟨k254, k253, k15, ⟨by decide +kernel, by decide +kernel, by decide +kernel⟩⟩
theorem ok_TR_copyAll : x_okV y_TR_copyAll b_TR_copyAll 5 (some .boolean) 2 := ⟨k258, k257, s_TR_copyAll, k7, ⟨by decide +kernel, by decide +kernel, by decide +kernel⟩⟩
theorem ok_TR_mayCopy : x_okV y_TR_mayCopy b_TR_mayCopy 4 (some .boolean) 2 := ⟨k262, k261, s_TR_mayCopy, k7, ⟨by decide +kernel, by decide +kernel, by decide +kernel⟩⟩
theorem ok_TR_fitsAt : x_okV y_TR_fitsAt b_TR_fitsAt 5 (some .boolean) 2 := ⟨k266, k265, s_TR_fitsAt, k7, ⟨by decide +kernel, by decide +kernel, by decide +kernel⟩⟩
theorem ok_PA_namesWhenPut : x_okS y_PA_namesWhenPut b_PA_namesWhenPut 3 (some .int) 3 := ⟨k269, k268, k15, ⟨by decide +kernel, by decide +kernel, by decide +kernel⟩⟩
theorem ok_PA_whenPut : x_okS y_PA_whenPut b_PA_whenPut 6 (some .int) 3 := ⟨k272, k271, k15, ⟨by decide +kernel, by decide +kernel, by decide +kernel⟩⟩
theorem ok_IS_answerDraftOn : x_okV y_IS_answerDraftOn b_IS_answerDraftOn 3 (some .int) 1 := ⟨k276, k275, s_IS_answerDraftOn, k1, ⟨by decide +kernel, by decide +kernel, by decide +kernel⟩⟩
theorem ok_TR_sameAs : x_okV y_TR_sameAs b_TR_sameAs 3 (some .boolean) 1 := ⟨k280, k278, k279, k7, ⟨by decide +kernel, by decide +kernel, by decide +kernel⟩⟩
theorem ok_IS_answerHeld : x_okV y_IS_answerHeld b_IS_answerHeld 2 (some .int) 1 := ⟨k284, k283, s_IS_answerHeld, k1, ⟨by decide +kernel, by decide +kernel, by decide +kernel⟩⟩
theorem ok_ST_hold : x_okV y_ST_hold b_ST_hold 2 none 1 := ⟨k288, k286, k287, k5, ⟨by decide +kernel, by decide +kernel, by decide +kernel⟩⟩
theorem ok_IS_newImageOn : x_okV y_IS_newImageOn b_IS_newImageOn 6 (some (.object "ImageStores$Image")) 1 := ⟨k292, k291, s_IS_newImageOn, k1, ⟨by decide +kernel, by decide +kernel, by decide +kernel⟩⟩
theorem ok_AR_copyOfI : x_okS y_AR_copyOfI b_AR_copyOfI 3 (some (.array .int)) 2 := ⟨k295, k294, k6, ⟨by decide +kernel, by decide +kernel, by decide +kernel⟩⟩
theorem ok_LY_init : x_okI y_LY_init b_LY_init 8 2 := ⟨k307, k306, k16, by decide +kernel, ⟨by decide +kernel, by decide +kernel, by decide +kernel⟩⟩
theorem ok_LY_changeAt : x_okS y_LY_changeAt b_LY_changeAt 5 (some .long) 3 := ⟨k311, k310, k16, ⟨by decide +kernel, by decide +kernel, by decide +kernel⟩⟩
theorem ok_TR_at : x_okV y_TR_at b_TR_at 2 (some .long) 1 := ⟨k315, k313, k314, k7, ⟨by decide +kernel, by decide +kernel, by decide +kernel⟩⟩
theorem ok_IS_numberOfLayer : x_okV y_IS_numberOfLayer b_IS_numberOfLayer 3 (some .int) 1 := ⟨k333, k332, s_IS_numberOfLayer, k1, ⟨by decide +kernel, by decide +kernel, by decide +kernel⟩⟩
theorem ok_LY_sameAs : x_okV y_LY_sameAs b_LY_sameAs 3 (some .boolean) 1 := ⟨k337, k335, k336, k16, ⟨by decide +kernel, by decide +kernel, by decide +kernel⟩⟩
theorem ok_IS_flatten : x_okV y_IS_flatten b_IS_flatten 2 (some .int) 1 := ⟨k341, k339, k340, k1, ⟨by decide +kernel, by decide +kernel, by decide +kernel⟩⟩
theorem ok_IS_tag : x_okV y_IS_tag b_IS_tag 5 (some .int) 3 := ⟨k345, k343, k344, k1, ⟨by decide +kernel, by decide +kernel, by decide +kernel⟩⟩
theorem ok_IS_isStore : x_okS y_IS_isStore b_IS_isStore 1 (some .boolean) 1 := ⟨k348, k347, k1, ⟨by decide +kernel, by decide +kernel, by decide +kernel⟩⟩
theorem ok_IS_isTag : x_okS y_IS_isTag b_IS_isTag 1 (some .boolean) 1 := ⟨k351, k350, k1, ⟨by decide +kernel, by decide +kernel, by decide +kernel⟩⟩
theorem ok_IS_storeOf : x_okV y_IS_storeOf b_IS_storeOf 2 (some (.object "ImageStores$Store")) 1 := ⟨k355, k354, s_IS_storeOf, k1, ⟨by decide +kernel, by decide +kernel, by decide +kernel⟩⟩
theorem ok_ST_nameOf : x_okV y_ST_nameOf b_ST_nameOf 2 (some .int) 1 := ⟨k359, k357, k358, k5, ⟨by decide +kernel, by decide +kernel, by decide +kernel⟩⟩
theorem ok_ST_giveName : x_okV y_ST_giveName b_ST_giveName 3 none 2 := ⟨k363, k361, k362, k5, ⟨by decide +kernel, by decide +kernel, by decide +kernel⟩⟩
theorem ok_IS_untag : x_okV y_IS_untag b_IS_untag 4 (some .int) 2 := ⟨k367, k365, k366, k1, ⟨by decide +kernel, by decide +kernel, by decide +kernel⟩⟩
theorem ok_IS_namesImage : x_okV y_IS_namesImage b_IS_namesImage 3 (some .boolean) 2 := ⟨k371, k370, s_IS_namesImage, k1, ⟨by decide +kernel, by decide +kernel, by decide +kernel⟩⟩
theorem ok_IS_send : x_okV y_IS_send b_IS_send 6 (some .int) 2 := ⟨k375, k373, k374, k1, ⟨by decide +kernel, by decide +kernel, by decide +kernel⟩⟩
theorem ok_IS_layersIn : x_okV y_IS_layersIn b_IS_layersIn 4 (some .int) 1 := ⟨k379, k378, s_IS_layersIn, k1, ⟨by decide +kernel, by decide +kernel, by decide +kernel⟩⟩
theorem ok_IS_seeLayersOf : x_okV y_IS_seeLayersOf b_IS_seeLayersOf 7 none 1 := ⟨k383, k382, s_IS_seeLayersOf, k1, ⟨by decide +kernel, by decide +kernel, by decide +kernel⟩⟩
theorem ok_IS_collect : x_okV y_IS_collect b_IS_collect 3 (some .int) 1 := ⟨k387, k385, k386, k1, ⟨by decide +kernel, by decide +kernel, by decide +kernel⟩⟩
theorem ok_ST_holdOnlyNamed : x_okV y_ST_holdOnlyNamed b_ST_holdOnlyNamed 5 none 0 := ⟨k391, k389, k390, k5, ⟨by decide +kernel, by decide +kernel, by decide +kernel⟩⟩
theorem ok_IS_named : x_okV y_IS_named b_IS_named 3 (some .int) 2 := ⟨k396, k394, k395, k1, ⟨by decide +kernel, by decide +kernel, by decide +kernel⟩⟩
theorem ok_IS_held : x_okV y_IS_held b_IS_held 3 (some .boolean) 2 := ⟨k400, k398, k399, k1, ⟨by decide +kernel, by decide +kernel, by decide +kernel⟩⟩
theorem ok_IS_look : x_okV y_IS_look b_IS_look 3 (some .long) 2 := ⟨k404, k402, k403, k1, ⟨by decide +kernel, by decide +kernel, by decide +kernel⟩⟩
theorem ok_PA_inRange : x_okS y_PA_inRange b_PA_inRange 1 (some .boolean) 1 := ⟨k407, k406, k15, ⟨by decide +kernel, by decide +kernel, by decide +kernel⟩⟩
theorem ok_IS_next : x_okV y_IS_next b_IS_next 3 (some .int) 2 := ⟨k413, k411, k412, k1, ⟨by decide +kernel, by decide +kernel, by decide +kernel⟩⟩
theorem ok_TR_presentAfter : x_okV y_TR_presentAfter b_TR_presentAfter 3 (some .int) 1 := ⟨k417, k415, k416, k7, ⟨by decide +kernel, by decide +kernel, by decide +kernel⟩⟩
theorem ok_IS_layers : x_okV y_IS_layers b_IS_layers 2 (some .int) 1 := ⟨k421, k419, k420, k1, ⟨by decide +kernel, by decide +kernel, by decide +kernel⟩⟩
theorem ok_IS_entries : x_okV y_IS_entries b_IS_entries 3 (some .int) 2 := ⟨k425, k423, k424, k1, ⟨by decide +kernel, by decide +kernel, by decide +kernel⟩⟩
theorem ok_IS_hasLayer : x_okV y_IS_hasLayer b_IS_hasLayer 3 (some .boolean) 2 := ⟨k429, k428, s_IS_hasLayer, k1, ⟨by decide +kernel, by decide +kernel, by decide +kernel⟩⟩
theorem ok_IS_layerOf : x_okV y_IS_layerOf b_IS_layerOf 3 (some (.object "ImageStores$Layer")) 2 := ⟨k433, k432, s_IS_layerOf, k1, ⟨by decide +kernel, by decide +kernel, by decide +kernel⟩⟩
theorem ok_LY_size : x_okV y_LY_size b_LY_size 1 (some .int) 0 := ⟨k437, k435, k436, k16, ⟨by decide +kernel, by decide +kernel, by decide +kernel⟩⟩
theorem ok_IS_entryPath : x_okV y_IS_entryPath b_IS_entryPath 4 (some .int) 3 := ⟨k441, k439, k440, k1, ⟨by decide +kernel, by decide +kernel, by decide +kernel⟩⟩
theorem ok_IS_hasEntry : x_okV y_IS_hasEntry b_IS_hasEntry 4 (some .boolean) 3 := ⟨k445, k444, s_IS_hasEntry, k1, ⟨by decide +kernel, by decide +kernel, by decide +kernel⟩⟩
theorem ok_IS_entryMark : x_okV y_IS_entryMark b_IS_entryMark 4 (some .long) 3 := ⟨k449, k447, k448, k1, ⟨by decide +kernel, by decide +kernel, by decide +kernel⟩⟩
theorem ok_IS_common : x_okV y_IS_common b_IS_common 7 (some .int) 2 := ⟨k453, k451, k452, k1, ⟨by decide +kernel, by decide +kernel, by decide +kernel⟩⟩
theorem ok_IS_shared : x_okV y_IS_shared b_IS_shared 8 (some .int) 2 := ⟨k458, k456, k457, k1, ⟨by decide +kernel, by decide +kernel, by decide +kernel⟩⟩
theorem ok_IM_hasLayerNumber : x_okV y_IM_hasLayerNumber b_IM_hasLayerNumber 6 (some .boolean) 1 := ⟨k462, k460, k461, k8, ⟨by decide +kernel, by decide +kernel, by decide +kernel⟩⟩
theorem ok_IS_count : x_okV y_IS_count b_IS_count 2 (some .int) 1 := ⟨k466, k464, k465, k1, ⟨by decide +kernel, by decide +kernel, by decide +kernel⟩⟩
theorem ok_IS_entriesIn : x_okV y_IS_entriesIn b_IS_entriesIn 4 (some .int) 1 := ⟨k470, k469, s_IS_entriesIn, k1, ⟨by decide +kernel, by decide +kernel, by decide +kernel⟩⟩
theorem ok_MO_init : x_okI y_MO_init b_MO_init 2 0 := ⟨k475, k474, k12, by decide +kernel, ⟨by decide +kernel, by decide +kernel, by decide +kernel⟩⟩
theorem ok_MO_build : x_okV y_MO_build b_MO_build 5 (some .int) 4 := ⟨k507, k505, k506, k12, ⟨by decide +kernel, by decide +kernel, by decide +kernel⟩⟩
theorem ok_MO_holding : x_okV y_MO_holding b_MO_holding 3 (some .boolean) 2 := ⟨k511, k510, s_MO_holding, k12, ⟨by decide +kernel, by decide +kernel, by decide +kernel⟩⟩
theorem ok_MO_is : x_okV y_MO_is b_MO_is 2 (some .boolean) 1 := ⟨k515, k514, s_MO_is, k12, ⟨by decide +kernel, by decide +kernel, by decide +kernel⟩⟩
theorem ok_MO_legal : x_okS y_MO_legal b_MO_legal 1 (some .boolean) 1 := ⟨k518, k517, k12, ⟨by decide +kernel, by decide +kernel, by decide +kernel⟩⟩
theorem ok_MO_load : x_okV y_MO_load b_MO_load 3 none 1 := ⟨k522, k521, s_MO_load, k12, ⟨by decide +kernel, by decide +kernel, by decide +kernel⟩⟩
theorem ok_MO_change : x_okV y_MO_change b_MO_change 4 (some .boolean) 3 := ⟨k526, k525, s_MO_change, k12, ⟨by decide +kernel, by decide +kernel, by decide +kernel⟩⟩
theorem ok_MO_underFile : x_okV y_MO_underFile b_MO_underFile 3 (some .boolean) 1 := ⟨k530, k529, s_MO_underFile, k12, ⟨by decide +kernel, by decide +kernel, by decide +kernel⟩⟩
theorem ok_MO_depth : x_okS y_MO_depth b_MO_depth 1 (some .int) 1 := ⟨k533, k532, k12, ⟨by decide +kernel, by decide +kernel, by decide +kernel⟩⟩
theorem ok_MO_head : x_okS y_MO_head b_MO_head 2 (some .int) 2 := ⟨k536, k535, k12, ⟨by decide +kernel, by decide +kernel, by decide +kernel⟩⟩
theorem ok_MO_file : x_okS y_MO_file b_MO_file 2 (some .boolean) 1 := ⟨k539, k538, k12, ⟨by decide +kernel, by decide +kernel, by decide +kernel⟩⟩
theorem ok_MO_raise : x_okV y_MO_raise b_MO_raise 5 (some .boolean) 2 := ⟨k543, k542, s_MO_raise, k12, ⟨by decide +kernel, by decide +kernel, by decide +kernel⟩⟩
theorem ok_MO_wipe : x_okV y_MO_wipe b_MO_wipe 3 (some .boolean) 1 := ⟨k547, k546, s_MO_wipe, k12, ⟨by decide +kernel, by decide +kernel, by decide +kernel⟩⟩
theorem ok_MO_below : x_okS y_MO_below b_MO_below 2 (some .boolean) 2 := ⟨k550, k549, k12, ⟨by decide +kernel, by decide +kernel, by decide +kernel⟩⟩
theorem ok_MO_copy : x_okV y_MO_copy b_MO_copy 4 (some .boolean) 2 := ⟨k554, k553, s_MO_copy, k12, ⟨by decide +kernel, by decide +kernel, by decide +kernel⟩⟩
theorem ok_MO_above : x_okS y_MO_above b_MO_above 1 (some .int) 1 := ⟨k557, k556, k12, ⟨by decide +kernel, by decide +kernel, by decide +kernel⟩⟩
theorem ok_MO_carried : x_okS y_MO_carried b_MO_carried 6 (some .int) 3 := ⟨k560, k559, k12, ⟨by decide +kernel, by decide +kernel, by decide +kernel⟩⟩
theorem ok_MO_name : x_okS y_MO_name b_MO_name 2 (some .int) 2 := ⟨k563, k562, k12, ⟨by decide +kernel, by decide +kernel, by decide +kernel⟩⟩
theorem ok_MO_image : x_okV y_MO_image b_MO_image 3 (some .int) 1 := ⟨k567, k566, s_MO_image, k12, ⟨by decide +kernel, by decide +kernel, by decide +kernel⟩⟩
theorem ok_MO_workIs : x_okV y_MO_workIs b_MO_workIs 3 (some .boolean) 1 := ⟨k571, k570, s_MO_workIs, k12, ⟨by decide +kernel, by decide +kernel, by decide +kernel⟩⟩
theorem ok_MO_answer : x_okV y_MO_answer b_MO_answer 2 (some .int) 1 := ⟨k575, k574, s_MO_answer, k12, ⟨by decide +kernel, by decide +kernel, by decide +kernel⟩⟩
theorem ok_MO_flatten : x_okV y_MO_flatten b_MO_flatten 2 (some .int) 1 := ⟨k579, k577, k578, k12, ⟨by decide +kernel, by decide +kernel, by decide +kernel⟩⟩
theorem ok_MO_tag : x_okV y_MO_tag b_MO_tag 5 (some .int) 3 := ⟨k583, k581, k582, k12, ⟨by decide +kernel, by decide +kernel, by decide +kernel⟩⟩
theorem ok_MO_badTag : x_okS y_MO_badTag b_MO_badTag 2 (some .boolean) 2 := ⟨k586, k585, k12, ⟨by decide +kernel, by decide +kernel, by decide +kernel⟩⟩
theorem ok_MO_untag : x_okV y_MO_untag b_MO_untag 4 (some .int) 2 := ⟨k590, k588, k589, k12, ⟨by decide +kernel, by decide +kernel, by decide +kernel⟩⟩
theorem ok_MO_send : x_okV y_MO_send b_MO_send 6 (some .int) 2 := ⟨k594, k592, k593, k12, ⟨by decide +kernel, by decide +kernel, by decide +kernel⟩⟩
theorem ok_MO_chooseHeld : x_okV y_MO_chooseHeld b_MO_chooseHeld 3 none 1 := ⟨k598, k597, s_MO_chooseHeld, k12, ⟨by decide +kernel, by decide +kernel, by decide +kernel⟩⟩
theorem ok_MO_chooseNone : x_okV y_MO_chooseNone b_MO_chooseNone 2 none 0 := ⟨k602, k601, s_MO_chooseNone, k12, ⟨by decide +kernel, by decide +kernel, by decide +kernel⟩⟩
theorem ok_MO_choose : x_okV y_MO_choose b_MO_choose 3 none 1 := ⟨k606, k605, s_MO_choose, k12, ⟨by decide +kernel, by decide +kernel, by decide +kernel⟩⟩
theorem ok_MO_different : x_okV y_MO_different b_MO_different 4 (some .int) 1 := ⟨k610, k609, s_MO_different, k12, ⟨by decide +kernel, by decide +kernel, by decide +kernel⟩⟩
theorem ok_MO_there : x_okV y_MO_there b_MO_there 4 (some .boolean) 2 := ⟨k614, k613, s_MO_there, k12, ⟨by decide +kernel, by decide +kernel, by decide +kernel⟩⟩
theorem ok_MO_same : x_okV y_MO_same b_MO_same 4 (some .boolean) 2 := ⟨k618, k617, s_MO_same, k12, ⟨by decide +kernel, by decide +kernel, by decide +kernel⟩⟩
theorem ok_MO_mark : x_okV y_MO_mark b_MO_mark 7 (some .long) 2 := ⟨k622, k621, s_MO_mark, k12, ⟨by decide +kernel, by decide +kernel, by decide +kernel⟩⟩
theorem ok_MO_size : x_okV y_MO_size b_MO_size 4 (some .int) 1 := ⟨k628, k627, s_MO_size, k12, ⟨by decide +kernel, by decide +kernel, by decide +kernel⟩⟩
theorem ok_MO_collect : x_okV y_MO_collect b_MO_collect 4 (some .int) 1 := ⟨k632, k630, k631, k12, ⟨by decide +kernel, by decide +kernel, by decide +kernel⟩⟩
theorem ok_MO_named : x_okV y_MO_named b_MO_named 3 (some .int) 2 := ⟨k636, k634, k635, k12, ⟨by decide +kernel, by decide +kernel, by decide +kernel⟩⟩
theorem ok_MO_held : x_okV y_MO_held b_MO_held 3 (some .boolean) 2 := ⟨k640, k638, k639, k12, ⟨by decide +kernel, by decide +kernel, by decide +kernel⟩⟩
theorem ok_MO_look : x_okV y_MO_look b_MO_look 3 (some .long) 2 := ⟨k644, k642, k643, k12, ⟨by decide +kernel, by decide +kernel, by decide +kernel⟩⟩
theorem ok_MO_next : x_okV y_MO_next b_MO_next 4 (some .int) 2 := ⟨k648, k646, k647, k12, ⟨by decide +kernel, by decide +kernel, by decide +kernel⟩⟩
theorem ok_MO_layers : x_okV y_MO_layers b_MO_layers 2 (some .int) 1 := ⟨k652, k650, k651, k12, ⟨by decide +kernel, by decide +kernel, by decide +kernel⟩⟩
theorem ok_MO_layerCount : x_okV y_MO_layerCount b_MO_layerCount 4 (some .int) 1 := ⟨k656, k655, s_MO_layerCount, k12, ⟨by decide +kernel, by decide +kernel, by decide +kernel⟩⟩
theorem ok_MO_entries : x_okV y_MO_entries b_MO_entries 3 (some .int) 2 := ⟨k660, k658, k659, k12, ⟨by decide +kernel, by decide +kernel, by decide +kernel⟩⟩
theorem ok_MO_owner : x_okV y_MO_owner b_MO_owner 6 (some .int) 2 := ⟨k664, k663, s_MO_owner, k12, ⟨by decide +kernel, by decide +kernel, by decide +kernel⟩⟩
theorem ok_MO_entryPath : x_okV y_MO_entryPath b_MO_entryPath 7 (some .int) 3 := ⟨k668, k666, k667, k12, ⟨by decide +kernel, by decide +kernel, by decide +kernel⟩⟩
theorem ok_MO_entryMark : x_okV y_MO_entryMark b_MO_entryMark 5 (some .long) 3 := ⟨k672, k670, k671, k12, ⟨by decide +kernel, by decide +kernel, by decide +kernel⟩⟩
theorem ok_MO_common : x_okV y_MO_common b_MO_common 4 (some .int) 2 := ⟨k677, k675, k676, k12, ⟨by decide +kernel, by decide +kernel, by decide +kernel⟩⟩
theorem ok_MO_shared : x_okV y_MO_shared b_MO_shared 5 (some .int) 2 := ⟨k681, k679, k680, k12, ⟨by decide +kernel, by decide +kernel, by decide +kernel⟩⟩
theorem ok_MO_count : x_okV y_MO_count b_MO_count 2 (some .int) 1 := ⟨k685, k683, k684, k12, ⟨by decide +kernel, by decide +kernel, by decide +kernel⟩⟩
end
section
/-! ===== Path ===== -/
def pj_rem (x y : Int32) : Int32 := x - x / y * y
def pj_inR (x : Int32) : Bool := !decide (x < 0) && decide (x < 125)
theorem c_PA_inRange (l : Launch) (G : x_G) (x : Int32) : Met l y_PA_inRange (x_ws y_PA_inRange b_PA_inRange 1 (some .boolean)) (x_rm 0 0 0) (x_P G [.int x] (fun _ => True)) (k2_QcV (.int (x_b (pj_inR x)))) 0 0 (fun _ => False) := by
  refine x_mZ (by decide +kernel) (Nat.le_of_ble_eq_true rfl) (fun p e s m args below meth c F hK hP ls hl Q hret => ?_)
  have hl : lv_has ls 1 [(0, .int x)] := hl
  refine lv_iload_n F.1 F.2.1 d_PA_inRange_0 rfl (lv_at hl 0 rfl) ?_
  refine lv_if_lt (tgt := 14) F.1 F.2.1 d_PA_inRange_1 (by decide) (fun c1 => ?_) (fun c1 => ?_)
  · refine lv_iconst (v := 0) F.1 F.2.1 d_PA_inRange_14 (by decide) ?_
    exact hret _ _ _ d_PA_inRange_15 (by simp [pj_inR, c1, x_b])
  · refine lv_iload_n F.1 F.2.1 d_PA_inRange_4 rfl (lv_at hl 0 rfl) ?_
    refine lv_bipush (v := 125) F.1 F.2.1 d_PA_inRange_5 (by decide) ?_
    refine lv_icmp_ge (tgt := 14) F.1 F.2.1 d_PA_inRange_7 (by decide) (fun c2 => ?_) (fun c2 => ?_)
    · refine lv_iconst (v := 0) F.1 F.2.1 d_PA_inRange_14 (by decide) ?_
      exact hret _ _ _ d_PA_inRange_15 (by simp only [pj_inR]; rw [decide_eq_false (Int32.not_lt.mpr c2 : ¬ x < 125), Bool.and_false]; rfl)
    · refine lv_iconst (v := 1) F.1 F.2.1 d_PA_inRange_10 (by decide) ?_
      refine lv_goto (tgt := 15) F.1 F.2.1 d_PA_inRange_11 (by decide) ?_
      exact hret _ _ _ d_PA_inRange_15 (by simp only [pj_inR]; rw [decide_eq_false (by simpa using c1), decide_eq_true (by simpa using c2)]; rfl)
def pj_legal (x : Int32) : Bool := decide (25 ≤ x ∧ x < 125) && (decide (pj_rem (x / 5) 5 ≠ 0) || !decide (pj_rem x 5 ≠ 0))
theorem c_PA_isLegal (l : Launch) (G : x_G) (x : Int32) : Met l y_PA_isLegal (x_ws y_PA_isLegal b_PA_isLegal 4 (some .boolean)) (x_rm 0 0 0) (x_P G [.int x] (fun _ => True)) (k2_QcV (.int (x_b (pj_legal x)))) 0 0 (fun _ => False) := by
  refine x_mZ (by decide +kernel) (Nat.le_of_ble_eq_true rfl) (fun p e s m args below meth c F hK hP ls hl Q hret => ?_)
  have hl : lv_has ls 4 [(0, .int x)] := hl
  have k44 : ∀ (v1 v2 v3 : Bool) (ls : Array Slot), lv_has ls 4 [(3, .int (x_b v3)), (2, .int (x_b v2)), (1, .int (x_b v1)), (0, .int x)] → (v1 && (v2 || !v3)) = pj_legal x → W p l e (x_rm 0 0 0) s m args below meth c s.heap [] 0 0 Q (F0 m 44 ls []) := by
    intro v1 v2 v3 ls hl hv
    refine lv_iload_n F.1 F.2.1 d_PA_isLegal_44 rfl (lv_at hl 2 rfl) ?_
    refine x_beq (tgt := 60) F d_PA_isLegal_45 (by decide) (fun c1 => ?_) (fun c1 => ?_)
    · refine lv_iconst (v := 0) F.1 F.2.1 d_PA_isLegal_60 (by decide) ?_
      exact hret _ _ _ d_PA_isLegal_61 (by rw [← hv, c1]; rfl)
    · refine lv_iload_n F.1 F.2.1 d_PA_isLegal_48 rfl (lv_at hl 1 rfl) ?_
      refine x_bne (tgt := 56) F d_PA_isLegal_49 (by decide) (fun c2 => ?_) (fun c2 => ?_)
      · refine lv_iconst (v := 1) F.1 F.2.1 d_PA_isLegal_56 (by decide) ?_
        refine lv_goto (tgt := 61) F.1 F.2.1 d_PA_isLegal_57 (by decide) ?_
        exact hret _ _ _ d_PA_isLegal_61 (by rw [← hv, c1, c2]; rfl)
      · refine lv_iload_n F.1 F.2.1 d_PA_isLegal_52 rfl (lv_at hl 0 rfl) ?_
        refine x_bne (tgt := 60) F d_PA_isLegal_53 (by decide) (fun c3 => ?_) (fun c3 => ?_)
        · refine lv_iconst (v := 0) F.1 F.2.1 d_PA_isLegal_60 (by decide) ?_
          exact hret _ _ _ d_PA_isLegal_61 (by rw [← hv, c1, c2, c3]; rfl)
        · refine lv_iconst (v := 1) F.1 F.2.1 d_PA_isLegal_56 (by decide) ?_
          refine lv_goto (tgt := 61) F.1 F.2.1 d_PA_isLegal_57 (by decide) ?_
          exact hret _ _ _ d_PA_isLegal_61 (by rw [← hv, c1, c2, c3]; rfl)
  have k32 : ∀ (v1 : Bool) (ls : Array Slot), lv_has ls 4 [(2, .int (x_b (decide (pj_rem (x / 5) 5 ≠ 0)))), (1, .int (x_b v1)), (0, .int x)] → v1 = decide (25 ≤ x ∧ x < 125) → W p l e (x_rm 0 0 0) s m args below meth c s.heap [] 0 0 Q (F0 m 32 ls []) := by
    intro v1 ls hl hv
    refine lv_iload_n F.1 F.2.1 d_PA_isLegal_32 rfl (lv_at hl 2 rfl) ?_
    refine lv_iconst (v := 5) F.1 F.2.1 d_PA_isLegal_33 (by decide) ?_
    refine lv_irem F.1 F.2.1 d_PA_isLegal_34 (by decide) ?_
    refine lv_if_eq (tgt := 42) F.1 F.2.1 d_PA_isLegal_35 (by decide) (fun c1 => ?_) (fun c1 => ?_)
    · refine lv_iconst (v := 0) F.1 F.2.1 d_PA_isLegal_42 (by decide) ?_
      refine lv_istore_n (lv' := [(3, .int 0), (2, .int (x_b (decide (pj_rem (x / 5) 5 ≠ 0)))), (1, .int (x_b v1)), (0, .int x)]) F.1 F.2.1 d_PA_isLegal_43 rfl hl (by decide) rfl (fun ls hl => ?_)
      exact k44 v1 _ false ls hl (by rw [hv]; simp only [pj_legal]; rw [decide_eq_false (show ¬ (pj_rem x 5 ≠ 0) from fun h => h c1)])
    · refine lv_iconst (v := 1) F.1 F.2.1 d_PA_isLegal_38 (by decide) ?_
      refine lv_goto (tgt := 43) F.1 F.2.1 d_PA_isLegal_39 (by decide) ?_
      refine lv_istore_n (lv' := [(3, .int 1), (2, .int (x_b (decide (pj_rem (x / 5) 5 ≠ 0)))), (1, .int (x_b v1)), (0, .int x)]) F.1 F.2.1 d_PA_isLegal_43 rfl hl (by decide) rfl (fun ls hl => ?_)
      exact k44 v1 _ true ls hl (by rw [hv]; simp only [pj_legal]; rw [decide_eq_true (show (pj_rem x 5 ≠ 0) from c1)])
  have k18 : ∀ (v1 : Bool) (ls : Array Slot), lv_has ls 4 [(1, .int (x_b v1)), (0, .int x)] → v1 = decide (25 ≤ x ∧ x < 125) → W p l e (x_rm 0 0 0) s m args below meth c s.heap [] 0 0 Q (F0 m 18 ls []) := by
    intro v1 ls hl hv
    refine lv_iload_n F.1 F.2.1 d_PA_isLegal_18 rfl (lv_at hl 1 rfl) ?_
    refine lv_iconst (v := 5) F.1 F.2.1 d_PA_isLegal_19 (by decide) ?_
    refine lv_idiv F.1 F.2.1 d_PA_isLegal_20 (by decide) ?_
    refine lv_iconst (v := 5) F.1 F.2.1 d_PA_isLegal_21 (by decide) ?_
    refine lv_irem F.1 F.2.1 d_PA_isLegal_22 (by decide) ?_
    refine lv_if_eq (tgt := 30) F.1 F.2.1 d_PA_isLegal_23 (by decide) (fun c1 => ?_) (fun c1 => ?_)
    · refine lv_iconst (v := 0) F.1 F.2.1 d_PA_isLegal_30 (by decide) ?_
      refine lv_istore_n (lv' := [(2, .int 0), (1, .int (x_b v1)), (0, .int x)]) F.1 F.2.1 d_PA_isLegal_31 rfl hl (by decide) rfl (fun ls hl => ?_)
      exact k32 v1 ls (by rw [decide_eq_false (show ¬ (pj_rem (x / 5) 5 ≠ 0) from fun h => h c1)]; exact hl) hv
    · refine lv_iconst (v := 1) F.1 F.2.1 d_PA_isLegal_26 (by decide) ?_
      refine lv_goto (tgt := 31) F.1 F.2.1 d_PA_isLegal_27 (by decide) ?_
      refine lv_istore_n (lv' := [(2, .int 1), (1, .int (x_b v1)), (0, .int x)]) F.1 F.2.1 d_PA_isLegal_31 rfl hl (by decide) rfl (fun ls hl => ?_)
      exact k32 v1 ls (by rw [decide_eq_true (show (pj_rem (x / 5) 5 ≠ 0) from c1)]; exact hl) hv
  refine lv_iload_n F.1 F.2.1 d_PA_isLegal_0 rfl (lv_at hl 0 rfl) ?_
  refine lv_bipush (v := 25) F.1 F.2.1 d_PA_isLegal_1 (by decide) ?_
  refine lv_icmp_lt (tgt := 16) F.1 F.2.1 d_PA_isLegal_3 (by decide) (fun c1 => ?_) (fun c1 => ?_)
  · refine lv_iconst (v := 0) F.1 F.2.1 d_PA_isLegal_16 (by decide) ?_
    refine lv_istore_n (lv' := [(1, .int 0), (0, .int x)]) F.1 F.2.1 d_PA_isLegal_17 rfl hl (by decide) rfl (fun ls hl => ?_)
    exact k18 false ls hl (by rw [decide_eq_false]; rintro ⟨h1, h2⟩; exact absurd c1 (Int32.not_lt.mpr h1))
  · refine lv_iload_n F.1 F.2.1 d_PA_isLegal_6 rfl (lv_at hl 0 rfl) ?_
    refine lv_bipush (v := 125) F.1 F.2.1 d_PA_isLegal_7 (by decide) ?_
    refine lv_icmp_ge (tgt := 16) F.1 F.2.1 d_PA_isLegal_9 (by decide) (fun c2 => ?_) (fun c2 => ?_)
    · refine lv_iconst (v := 0) F.1 F.2.1 d_PA_isLegal_16 (by decide) ?_
      refine lv_istore_n (lv' := [(1, .int 0), (0, .int x)]) F.1 F.2.1 d_PA_isLegal_17 rfl hl (by decide) rfl (fun ls hl => ?_)
      exact k18 false ls hl (by rw [decide_eq_false]; rintro ⟨h1, h2⟩; exact absurd h2 (Int32.not_lt.mpr c2))
    · refine lv_iconst (v := 1) F.1 F.2.1 d_PA_isLegal_12 (by decide) ?_
      refine lv_goto (tgt := 17) F.1 F.2.1 d_PA_isLegal_13 (by decide) ?_
      refine lv_istore_n (lv' := [(1, .int 1), (0, .int x)]) F.1 F.2.1 d_PA_isLegal_17 rfl hl (by decide) rfl (fun ls hl => ?_)
      exact k18 true ls hl (by rw [decide_eq_true ⟨Int32.not_lt.mp c1, Int32.not_le.mp c2⟩])
def pj_names (x : Int32) : Int32 := if x = 0 then 0 else if pj_rem x 25 = 0 then 1 else if pj_rem x 5 = 0 then 2 else 3
theorem c_PA_names (l : Launch) (G : x_G) (x : Int32) : Met l y_PA_names (x_ws y_PA_names b_PA_names 1 (some .int)) (x_rm 0 0 0) (x_P G [.int x] (fun _ => True)) (k2_QcV (.int (pj_names x))) 0 0 (fun _ => False) := by
  refine x_mI (by decide +kernel) (Nat.le_of_ble_eq_true rfl) (fun p e s m args below meth c F hK hP ls hl Q hret => ?_)
  have hl : lv_has ls 1 [(0, .int x)] := hl
  refine lv_iload_n F.1 F.2.1 d_PA_names_0 rfl (lv_at hl 0 rfl) ?_
  refine lv_if_ne (tgt := 6) F.1 F.2.1 d_PA_names_1 (by decide) (fun c1 => ?_) (fun c1 => ?_)
  · refine lv_iload_n F.1 F.2.1 d_PA_names_6 rfl (lv_at hl 0 rfl) ?_
    refine lv_bipush (v := 25) F.1 F.2.1 d_PA_names_7 (by decide) ?_
    refine lv_irem F.1 F.2.1 d_PA_names_9 (by decide) ?_
    refine lv_if_ne (tgt := 15) F.1 F.2.1 d_PA_names_10 (by decide) (fun c2 => ?_) (fun c2 => ?_)
    · refine lv_iload_n F.1 F.2.1 d_PA_names_15 rfl (lv_at hl 0 rfl) ?_
      refine lv_iconst (v := 5) F.1 F.2.1 d_PA_names_16 (by decide) ?_
      refine lv_irem F.1 F.2.1 d_PA_names_17 (by decide) ?_
      refine lv_if_ne (tgt := 25) F.1 F.2.1 d_PA_names_18 (by decide) (fun c3 => ?_) (fun c3 => ?_)
      · refine lv_iconst (v := 3) F.1 F.2.1 d_PA_names_25 (by decide) ?_
        exact hret _ _ _ d_PA_names_26 (by unfold pj_names; rw [if_neg c1, if_neg (show ¬ pj_rem x 25 = 0 from c2), if_neg (show ¬ pj_rem x 5 = 0 from c3)])
      · refine lv_iconst (v := 2) F.1 F.2.1 d_PA_names_21 (by decide) ?_
        refine lv_goto (tgt := 26) F.1 F.2.1 d_PA_names_22 (by decide) ?_
        exact hret _ _ _ d_PA_names_26 (by unfold pj_names; rw [if_neg c1, if_neg (show ¬ pj_rem x 25 = 0 from c2), if_pos (show pj_rem x 5 = 0 from c3)])
    · refine lv_iconst (v := 1) F.1 F.2.1 d_PA_names_13 (by decide) ?_
      exact hret _ _ _ d_PA_names_14 (by unfold pj_names; rw [if_neg c1, if_pos (show pj_rem x 25 = 0 from c2)])
  · refine lv_iconst (v := 0) F.1 F.2.1 d_PA_names_4 (by decide) ?_
    exact hret _ _ _ d_PA_names_5 (by unfold pj_names; rw [if_pos (c1)])
def pj_parent (x : Int32) : Int32 := if pj_names x = 2 then x - pj_rem x 25 else if pj_names x = 3 then x - pj_rem x 5 else 0
def pj_end (x : Int32) : Int32 := if pj_names x = 1 then x + 25 else if pj_names x = 2 then x + 5 else x + 1
theorem pj_names_in (x : Int32) : pj_names x = 0 ∨ pj_names x = 1 ∨ pj_names x = 2 ∨ pj_names x = 3 := by
  unfold pj_names
  split
  · exact Or.inl rfl
  · split
    · exact Or.inr (Or.inl rfl)
    · split
      · exact Or.inr (Or.inr (Or.inl rfl))
      · exact Or.inr (Or.inr (Or.inr rfl))
theorem c_PA_parent (l : Launch) (G : x_G) (x : Int32) : Met l y_PA_parent (x_ws y_PA_parent b_PA_parent 1 (some .int)) (x_rm 1 0 0) (x_P G [.int x] (fun _ => True)) (k2_QcV (.int (pj_parent x))) 0 0 (fun _ => False) := by
  refine x_mI (by decide +kernel) (Nat.le_of_ble_eq_true rfl) (fun p e s m args below meth c F hK hP ls hl Q hret => ?_)
  have hl : lv_has ls 1 [(0, .int x)] := hl
  refine lv_iload_n F.1 F.2.1 d_PA_parent_0 rfl (lv_at hl 0 rfl) ?_
  refine x_rd (x_S (n := 1) (As := [.int x]) F (c_PA_names l G x) ok_PA_names k233 ⟨Nat.le_of_ble_eq_true rfl, Nat.le_of_ble_eq_true rfl⟩ rfl rfl hK (trivial) rfl hl.1 rfl (Nat.le_of_ble_eq_true rfl) d_PA_parent_1 ⟨Nat.le_of_ble_eq_true rfl, Nat.le_of_ble_eq_true rfl⟩) ?_
  rcases pj_names_in x with hn | hn | hn | hn
  · refine lv_lookup (off := 41) (tgt := 45) F.1 F.2.1 d_PA_parent_4 (by decide) (by rw [hn]; decide) (by decide) ?_
    refine lv_iconst (v := 0) F.1 F.2.1 d_PA_parent_45 (by decide) ?_
    exact hret _ _ _ d_PA_parent_46 (by unfold pj_parent; rw [hn]; rfl)
  · refine lv_lookup (off := 41) (tgt := 45) F.1 F.2.1 d_PA_parent_4 (by decide) (by rw [hn]; decide) (by decide) ?_
    refine lv_iconst (v := 0) F.1 F.2.1 d_PA_parent_45 (by decide) ?_
    exact hret _ _ _ d_PA_parent_46 (by unfold pj_parent; rw [hn]; rfl)
  · refine lv_lookup (off := 28) (tgt := 32) F.1 F.2.1 d_PA_parent_4 (by decide) (by rw [hn]; decide) (by decide) ?_
    refine lv_iload_n F.1 F.2.1 d_PA_parent_32 rfl (lv_at hl 0 rfl) ?_
    refine lv_iload_n F.1 F.2.1 d_PA_parent_33 rfl (lv_at hl 0 rfl) ?_
    refine lv_bipush (v := 25) F.1 F.2.1 d_PA_parent_34 (by decide) ?_
    refine lv_irem F.1 F.2.1 d_PA_parent_36 (by decide) ?_
    refine lv_isub F.1 F.2.1 d_PA_parent_37 ?_
    exact hret _ _ _ d_PA_parent_38 (by unfold pj_parent; rw [hn]; rfl)
  · refine lv_lookup (off := 35) (tgt := 39) F.1 F.2.1 d_PA_parent_4 (by decide) (by rw [hn]; decide) (by decide) ?_
    refine lv_iload_n F.1 F.2.1 d_PA_parent_39 rfl (lv_at hl 0 rfl) ?_
    refine lv_iload_n F.1 F.2.1 d_PA_parent_40 rfl (lv_at hl 0 rfl) ?_
    refine lv_iconst (v := 5) F.1 F.2.1 d_PA_parent_41 (by decide) ?_
    refine lv_irem F.1 F.2.1 d_PA_parent_42 (by decide) ?_
    refine lv_isub F.1 F.2.1 d_PA_parent_43 ?_
    exact hret _ _ _ d_PA_parent_44 (by unfold pj_parent; rw [hn]; rfl)
theorem c_PA_end (l : Launch) (G : x_G) (x : Int32) : Met l y_PA_end (x_ws y_PA_end b_PA_end 1 (some .int)) (x_rm 1 0 0) (x_P G [.int x] (fun _ => True)) (k2_QcV (.int (pj_end x))) 0 0 (fun _ => False) := by
  refine x_mI (by decide +kernel) (Nat.le_of_ble_eq_true rfl) (fun p e s m args below meth c F hK hP ls hl Q hret => ?_)
  have hl : lv_has ls 1 [(0, .int x)] := hl
  refine lv_iload_n F.1 F.2.1 d_PA_end_0 rfl (lv_at hl 0 rfl) ?_
  refine x_rd (x_S (n := 1) (As := [.int x]) F (c_PA_names l G x) ok_PA_names k233 ⟨Nat.le_of_ble_eq_true rfl, Nat.le_of_ble_eq_true rfl⟩ rfl rfl hK (trivial) rfl hl.1 rfl (Nat.le_of_ble_eq_true rfl) d_PA_end_1 ⟨Nat.le_of_ble_eq_true rfl, Nat.le_of_ble_eq_true rfl⟩) ?_
  rcases pj_names_in x with hn | hn | hn | hn
  · refine lv_lookup (off := 37) (tgt := 41) F.1 F.2.1 d_PA_end_4 (by decide) (by rw [hn]; decide) (by decide) ?_
    refine lv_iload_n F.1 F.2.1 d_PA_end_41 rfl (lv_at hl 0 rfl) ?_
    refine lv_iconst (v := 1) F.1 F.2.1 d_PA_end_42 (by decide) ?_
    refine lv_iadd F.1 F.2.1 d_PA_end_43 ?_
    exact hret _ _ _ d_PA_end_44 (by unfold pj_end; rw [hn]; rfl)
  · refine lv_lookup (off := 28) (tgt := 32) F.1 F.2.1 d_PA_end_4 (by decide) (by rw [hn]; decide) (by decide) ?_
    refine lv_iload_n F.1 F.2.1 d_PA_end_32 rfl (lv_at hl 0 rfl) ?_
    refine lv_bipush (v := 25) F.1 F.2.1 d_PA_end_33 (by decide) ?_
    refine lv_iadd F.1 F.2.1 d_PA_end_35 ?_
    exact hret _ _ _ d_PA_end_36 (by unfold pj_end; rw [hn]; rfl)
  · refine lv_lookup (off := 33) (tgt := 37) F.1 F.2.1 d_PA_end_4 (by decide) (by rw [hn]; decide) (by decide) ?_
    refine lv_iload_n F.1 F.2.1 d_PA_end_37 rfl (lv_at hl 0 rfl) ?_
    refine lv_iconst (v := 5) F.1 F.2.1 d_PA_end_38 (by decide) ?_
    refine lv_iadd F.1 F.2.1 d_PA_end_39 ?_
    exact hret _ _ _ d_PA_end_40 (by unfold pj_end; rw [hn]; rfl)
  · refine lv_lookup (off := 37) (tgt := 41) F.1 F.2.1 d_PA_end_4 (by decide) (by rw [hn]; decide) (by decide) ?_
    refine lv_iload_n F.1 F.2.1 d_PA_end_41 rfl (lv_at hl 0 rfl) ?_
    refine lv_iconst (v := 1) F.1 F.2.1 d_PA_end_42 (by decide) ?_
    refine lv_iadd F.1 F.2.1 d_PA_end_43 ?_
    exact hret _ _ _ d_PA_end_44 (by unfold pj_end; rw [hn]; rfl)
theorem c_PA_namesWhenPut (l : Launch) (G : x_G) (x f t : Int32) : Met l y_PA_namesWhenPut (x_ws y_PA_namesWhenPut b_PA_namesWhenPut 3 (some .int)) (x_rm 1 0 0) (x_P G [.int x, .int f, .int t] (fun _ => True)) (k2_QcV (.int (pj_names x - pj_names f + pj_names t))) 0 0 (fun _ => False) := by
  refine x_mI (by decide +kernel) (Nat.le_of_ble_eq_true rfl) (fun p e s m args below meth c F hK hP ls hl Q hret => ?_)
  have hl : lv_has ls 3 [(0, .int x), (1, .int f), (2, .int t)] := hl
  refine lv_iload_n F.1 F.2.1 d_PA_namesWhenPut_0 rfl (lv_at hl 0 rfl) ?_
  refine x_rd (x_S (n := 1) (As := [.int x]) F (c_PA_names l G x) ok_PA_names k233 ⟨Nat.le_of_ble_eq_true rfl, Nat.le_of_ble_eq_true rfl⟩ rfl rfl hK (trivial) rfl hl.1 rfl (Nat.le_of_ble_eq_true rfl) d_PA_namesWhenPut_1 ⟨Nat.le_of_ble_eq_true rfl, Nat.le_of_ble_eq_true rfl⟩) ?_
  refine lv_iload_n F.1 F.2.1 d_PA_namesWhenPut_4 rfl (lv_at hl 1 rfl) ?_
  refine x_rd (x_S (n := 1) (As := [.int f]) F (c_PA_names l G f) ok_PA_names k233 ⟨Nat.le_of_ble_eq_true rfl, Nat.le_of_ble_eq_true rfl⟩ rfl rfl hK (trivial) rfl hl.1 rfl (Nat.le_of_ble_eq_true rfl) d_PA_namesWhenPut_5 ⟨Nat.le_of_ble_eq_true rfl, Nat.le_of_ble_eq_true rfl⟩) ?_
  refine lv_isub F.1 F.2.1 d_PA_namesWhenPut_8 ?_
  refine lv_iload_n F.1 F.2.1 d_PA_namesWhenPut_9 rfl (lv_at hl 2 rfl) ?_
  refine x_rd (x_S (n := 1) (As := [.int t]) F (c_PA_names l G t) ok_PA_names k233 ⟨Nat.le_of_ble_eq_true rfl, Nat.le_of_ble_eq_true rfl⟩ rfl rfl hK (trivial) rfl hl.1 rfl (Nat.le_of_ble_eq_true rfl) d_PA_namesWhenPut_10 ⟨Nat.le_of_ble_eq_true rfl, Nat.le_of_ble_eq_true rfl⟩) ?_
  refine lv_iadd F.1 F.2.1 d_PA_namesWhenPut_13 ?_
  exact hret _ _ _ d_PA_namesWhenPut_14 rfl
def pj_off (d o : Int32) : Int32 := if d = 1 then o / 5 else if d = 2 then o / 5 / 5 else if d = -1 then o * 5 else if d = -2 then o * 5 * 5 else o
def pj_put (x f t : Int32) : Int32 := t + pj_off (pj_names t - pj_names f) (x - f)
theorem c_PA_whenPut (l : Launch) (G : x_G) (x f t : Int32) (hd : pj_names t - pj_names f = 0 ∨ pj_names t - pj_names f = 1 ∨ pj_names t - pj_names f = 2 ∨ pj_names t - pj_names f = -1 ∨ pj_names t - pj_names f = -2) : Met l y_PA_whenPut (x_ws y_PA_whenPut b_PA_whenPut 6 (some .int)) (x_rm 1 0 0) (x_P G [.int x, .int f, .int t] (fun _ => True)) (k2_QcV (.int (pj_put x f t))) 0 0 (fun _ => False) := by
  refine x_mI (by decide +kernel) (Nat.le_of_ble_eq_true rfl) (fun p e s m args below meth c F hK hP ls hl Q hret => ?_)
  have hl : lv_has ls 6 [(0, .int x), (1, .int f), (2, .int t)] := hl
  refine lv_iload_n F.1 F.2.1 d_PA_whenPut_0 rfl (lv_at hl 0 rfl) ?_
  refine lv_iload_n F.1 F.2.1 d_PA_whenPut_1 rfl (lv_at hl 1 rfl) ?_
  refine lv_isub F.1 F.2.1 d_PA_whenPut_2 ?_
  refine lv_istore_n (lv' := [(3, .int (x - f)), (0, .int x), (1, .int f), (2, .int t)]) F.1 F.2.1 d_PA_whenPut_3 rfl hl (by decide) rfl (fun ls hl => ?_)
  refine lv_iload_n F.1 F.2.1 d_PA_whenPut_4 rfl (lv_at hl 3 rfl) ?_
  refine x_rd (x_S (n := 1) (As := [.int t]) F (c_PA_names l G t) ok_PA_names k233 ⟨Nat.le_of_ble_eq_true rfl, Nat.le_of_ble_eq_true rfl⟩ rfl rfl hK (trivial) rfl hl.1 rfl (Nat.le_of_ble_eq_true rfl) d_PA_whenPut_5 ⟨Nat.le_of_ble_eq_true rfl, Nat.le_of_ble_eq_true rfl⟩) ?_
  refine lv_iload_n F.1 F.2.1 d_PA_whenPut_8 rfl (lv_at hl 2 rfl) ?_
  refine x_rd (x_S (n := 1) (As := [.int f]) F (c_PA_names l G f) ok_PA_names k233 ⟨Nat.le_of_ble_eq_true rfl, Nat.le_of_ble_eq_true rfl⟩ rfl rfl hK (trivial) rfl hl.1 rfl (Nat.le_of_ble_eq_true rfl) d_PA_whenPut_9 ⟨Nat.le_of_ble_eq_true rfl, Nat.le_of_ble_eq_true rfl⟩) ?_
  refine lv_isub F.1 F.2.1 d_PA_whenPut_12 ?_
  unfold pj_put at hret
  generalize hde : pj_names t - pj_names f = de at hd hret ⊢
  rcases hd with rfl | rfl | rfl | rfl | rfl
  · skip
    refine lv_istore (lv' := [(4, .int 0), (3, .int (x - f)), (0, .int x), (1, .int f), (2, .int t)]) F.1 F.2.1 d_PA_whenPut_13 hl (by decide) rfl (fun ls hl => ?_)
    refine lv_iconst (v := 0) F.1 F.2.1 d_PA_whenPut_15 (by decide) ?_
    refine lv_istore (lv' := [(5, .int 0), (4, .int 0), (3, .int (x - f)), (0, .int x), (1, .int f), (2, .int t)]) F.1 F.2.1 d_PA_whenPut_16 hl (by decide) rfl (fun ls hl => ?_)
    refine lv_iload F.1 F.2.1 d_PA_whenPut_18 (lv_at hl 0 rfl) ?_
    refine lv_iload F.1 F.2.1 d_PA_whenPut_20 (lv_at hl 1 rfl) ?_
    refine lv_icmp_ge (tgt := 35) F.1 F.2.1 d_PA_whenPut_22 (by decide) (fun _ => ?_) (fun zq => absurd ((by decide)) zq)
    refine lv_iload F.1 F.2.1 d_PA_whenPut_35 (lv_at hl 1 rfl) ?_
    refine lv_istore (lv' := [(5, .int 0), (4, .int 0), (3, .int (x - f)), (0, .int x), (1, .int f), (2, .int t)]) F.1 F.2.1 d_PA_whenPut_37 hl (by decide) rfl (fun ls hl => ?_)
    refine lv_iload F.1 F.2.1 d_PA_whenPut_39 (lv_at hl 0 rfl) ?_
    refine lv_if_ge (tgt := 54) F.1 F.2.1 d_PA_whenPut_41 (by decide) (fun _ => ?_) (fun zq => absurd ((by decide)) zq)
    refine lv_iload_n F.1 F.2.1 d_PA_whenPut_54 rfl (lv_at hl 5 rfl) ?_
    refine lv_iload_n F.1 F.2.1 d_PA_whenPut_55 rfl (lv_at hl 2 rfl) ?_
    refine lv_iadd F.1 F.2.1 d_PA_whenPut_56 ?_
    exact hret _ _ _ d_PA_whenPut_57 rfl
  · skip
    refine lv_istore (lv' := [(4, .int 1), (3, .int (x - f)), (0, .int x), (1, .int f), (2, .int t)]) F.1 F.2.1 d_PA_whenPut_13 hl (by decide) rfl (fun ls hl => ?_)
    refine lv_iconst (v := 0) F.1 F.2.1 d_PA_whenPut_15 (by decide) ?_
    refine lv_istore (lv' := [(5, .int 0), (4, .int 1), (3, .int (x - f)), (0, .int x), (1, .int f), (2, .int t)]) F.1 F.2.1 d_PA_whenPut_16 hl (by decide) rfl (fun ls hl => ?_)
    refine lv_iload F.1 F.2.1 d_PA_whenPut_18 (lv_at hl 0 rfl) ?_
    refine lv_iload F.1 F.2.1 d_PA_whenPut_20 (lv_at hl 1 rfl) ?_
    refine lv_icmp_ge (tgt := 35) F.1 F.2.1 d_PA_whenPut_22 (by decide) (fun zq => absurd zq ((by decide))) (fun _ => ?_)
    refine lv_iload_n F.1 F.2.1 d_PA_whenPut_25 rfl (lv_at hl 2 rfl) ?_
    refine lv_iconst (v := 5) F.1 F.2.1 d_PA_whenPut_26 (by decide) ?_
    refine lv_idiv F.1 F.2.1 d_PA_whenPut_27 (by decide) ?_
    refine lv_istore_n (lv' := [(3, .int ((x - f) / 5)), (5, .int 0), (4, .int 1), (0, .int x), (1, .int f), (2, .int t)]) F.1 F.2.1 d_PA_whenPut_28 rfl hl (by decide) rfl (fun ls hl => ?_)
    refine lv_iinc (v := (0 + 1)) (lv' := [(5, .int (0 + 1)), (3, .int ((x - f) / 5)), (4, .int 1), (0, .int x), (1, .int f), (2, .int t)]) F.1 F.2.1 d_PA_whenPut_29 hl (k := 1) rfl rfl (by decide) rfl (fun ls hl => ?_)
    refine lv_goto (tgt := 18) F.1 F.2.1 d_PA_whenPut_32 (by decide) ?_
    refine lv_iload F.1 F.2.1 d_PA_whenPut_18 (lv_at hl 0 rfl) ?_
    refine lv_iload F.1 F.2.1 d_PA_whenPut_20 (lv_at hl 2 rfl) ?_
    refine lv_icmp_ge (tgt := 35) F.1 F.2.1 d_PA_whenPut_22 (by decide) (fun _ => ?_) (fun zq => absurd ((by decide)) zq)
    refine lv_iload F.1 F.2.1 d_PA_whenPut_35 (lv_at hl 2 rfl) ?_
    refine lv_istore (lv' := [(5, .int 1), (3, .int ((x - f) / 5)), (4, .int 1), (0, .int x), (1, .int f), (2, .int t)]) F.1 F.2.1 d_PA_whenPut_37 hl (by decide) rfl (fun ls hl => ?_)
    refine lv_iload F.1 F.2.1 d_PA_whenPut_39 (lv_at hl 0 rfl) ?_
    refine lv_if_ge (tgt := 54) F.1 F.2.1 d_PA_whenPut_41 (by decide) (fun _ => ?_) (fun zq => absurd ((by decide)) zq)
    refine lv_iload_n F.1 F.2.1 d_PA_whenPut_54 rfl (lv_at hl 5 rfl) ?_
    refine lv_iload_n F.1 F.2.1 d_PA_whenPut_55 rfl (lv_at hl 1 rfl) ?_
    refine lv_iadd F.1 F.2.1 d_PA_whenPut_56 ?_
    exact hret _ _ _ d_PA_whenPut_57 rfl
  · skip
    refine lv_istore (lv' := [(4, .int 2), (3, .int (x - f)), (0, .int x), (1, .int f), (2, .int t)]) F.1 F.2.1 d_PA_whenPut_13 hl (by decide) rfl (fun ls hl => ?_)
    refine lv_iconst (v := 0) F.1 F.2.1 d_PA_whenPut_15 (by decide) ?_
    refine lv_istore (lv' := [(5, .int 0), (4, .int 2), (3, .int (x - f)), (0, .int x), (1, .int f), (2, .int t)]) F.1 F.2.1 d_PA_whenPut_16 hl (by decide) rfl (fun ls hl => ?_)
    refine lv_iload F.1 F.2.1 d_PA_whenPut_18 (lv_at hl 0 rfl) ?_
    refine lv_iload F.1 F.2.1 d_PA_whenPut_20 (lv_at hl 1 rfl) ?_
    refine lv_icmp_ge (tgt := 35) F.1 F.2.1 d_PA_whenPut_22 (by decide) (fun zq => absurd zq ((by decide))) (fun _ => ?_)
    refine lv_iload_n F.1 F.2.1 d_PA_whenPut_25 rfl (lv_at hl 2 rfl) ?_
    refine lv_iconst (v := 5) F.1 F.2.1 d_PA_whenPut_26 (by decide) ?_
    refine lv_idiv F.1 F.2.1 d_PA_whenPut_27 (by decide) ?_
    refine lv_istore_n (lv' := [(3, .int ((x - f) / 5)), (5, .int 0), (4, .int 2), (0, .int x), (1, .int f), (2, .int t)]) F.1 F.2.1 d_PA_whenPut_28 rfl hl (by decide) rfl (fun ls hl => ?_)
    refine lv_iinc (v := (0 + 1)) (lv' := [(5, .int (0 + 1)), (3, .int ((x - f) / 5)), (4, .int 2), (0, .int x), (1, .int f), (2, .int t)]) F.1 F.2.1 d_PA_whenPut_29 hl (k := 1) rfl rfl (by decide) rfl (fun ls hl => ?_)
    refine lv_goto (tgt := 18) F.1 F.2.1 d_PA_whenPut_32 (by decide) ?_
    refine lv_iload F.1 F.2.1 d_PA_whenPut_18 (lv_at hl 0 rfl) ?_
    refine lv_iload F.1 F.2.1 d_PA_whenPut_20 (lv_at hl 2 rfl) ?_
    refine lv_icmp_ge (tgt := 35) F.1 F.2.1 d_PA_whenPut_22 (by decide) (fun zq => absurd zq ((by decide))) (fun _ => ?_)
    refine lv_iload_n F.1 F.2.1 d_PA_whenPut_25 rfl (lv_at hl 1 rfl) ?_
    refine lv_iconst (v := 5) F.1 F.2.1 d_PA_whenPut_26 (by decide) ?_
    refine lv_idiv F.1 F.2.1 d_PA_whenPut_27 (by decide) ?_
    refine lv_istore_n (lv' := [(3, .int (((x - f) / 5) / 5)), (5, .int (0 + 1)), (4, .int 2), (0, .int x), (1, .int f), (2, .int t)]) F.1 F.2.1 d_PA_whenPut_28 rfl hl (by decide) rfl (fun ls hl => ?_)
    refine lv_iinc (v := ((0 + 1) + 1)) (lv' := [(5, .int ((0 + 1) + 1)), (3, .int (((x - f) / 5) / 5)), (4, .int 2), (0, .int x), (1, .int f), (2, .int t)]) F.1 F.2.1 d_PA_whenPut_29 hl (k := 1) rfl rfl (by decide) rfl (fun ls hl => ?_)
    refine lv_goto (tgt := 18) F.1 F.2.1 d_PA_whenPut_32 (by decide) ?_
    refine lv_iload F.1 F.2.1 d_PA_whenPut_18 (lv_at hl 0 rfl) ?_
    refine lv_iload F.1 F.2.1 d_PA_whenPut_20 (lv_at hl 2 rfl) ?_
    refine lv_icmp_ge (tgt := 35) F.1 F.2.1 d_PA_whenPut_22 (by decide) (fun _ => ?_) (fun zq => absurd ((by decide)) zq)
    refine lv_iload F.1 F.2.1 d_PA_whenPut_35 (lv_at hl 2 rfl) ?_
    refine lv_istore (lv' := [(5, .int 2), (3, .int (((x - f) / 5) / 5)), (4, .int 2), (0, .int x), (1, .int f), (2, .int t)]) F.1 F.2.1 d_PA_whenPut_37 hl (by decide) rfl (fun ls hl => ?_)
    refine lv_iload F.1 F.2.1 d_PA_whenPut_39 (lv_at hl 0 rfl) ?_
    refine lv_if_ge (tgt := 54) F.1 F.2.1 d_PA_whenPut_41 (by decide) (fun _ => ?_) (fun zq => absurd ((by decide)) zq)
    refine lv_iload_n F.1 F.2.1 d_PA_whenPut_54 rfl (lv_at hl 5 rfl) ?_
    refine lv_iload_n F.1 F.2.1 d_PA_whenPut_55 rfl (lv_at hl 1 rfl) ?_
    refine lv_iadd F.1 F.2.1 d_PA_whenPut_56 ?_
    exact hret _ _ _ d_PA_whenPut_57 rfl
  · skip
    refine lv_istore (lv' := [(4, .int (-1)), (3, .int (x - f)), (0, .int x), (1, .int f), (2, .int t)]) F.1 F.2.1 d_PA_whenPut_13 hl (by decide) rfl (fun ls hl => ?_)
    refine lv_iconst (v := 0) F.1 F.2.1 d_PA_whenPut_15 (by decide) ?_
    refine lv_istore (lv' := [(5, .int 0), (4, .int (-1)), (3, .int (x - f)), (0, .int x), (1, .int f), (2, .int t)]) F.1 F.2.1 d_PA_whenPut_16 hl (by decide) rfl (fun ls hl => ?_)
    refine lv_iload F.1 F.2.1 d_PA_whenPut_18 (lv_at hl 0 rfl) ?_
    refine lv_iload F.1 F.2.1 d_PA_whenPut_20 (lv_at hl 1 rfl) ?_
    refine lv_icmp_ge (tgt := 35) F.1 F.2.1 d_PA_whenPut_22 (by decide) (fun _ => ?_) (fun zq => absurd ((by decide)) zq)
    refine lv_iload F.1 F.2.1 d_PA_whenPut_35 (lv_at hl 1 rfl) ?_
    refine lv_istore (lv' := [(5, .int (-1)), (4, .int (-1)), (3, .int (x - f)), (0, .int x), (1, .int f), (2, .int t)]) F.1 F.2.1 d_PA_whenPut_37 hl (by decide) rfl (fun ls hl => ?_)
    refine lv_iload F.1 F.2.1 d_PA_whenPut_39 (lv_at hl 0 rfl) ?_
    refine lv_if_ge (tgt := 54) F.1 F.2.1 d_PA_whenPut_41 (by decide) (fun zq => absurd zq ((by decide))) (fun _ => ?_)
    refine lv_iload_n F.1 F.2.1 d_PA_whenPut_44 rfl (lv_at hl 2 rfl) ?_
    refine lv_iconst (v := 5) F.1 F.2.1 d_PA_whenPut_45 (by decide) ?_
    refine lv_imul F.1 F.2.1 d_PA_whenPut_46 ?_
    refine lv_istore_n (lv' := [(3, .int ((x - f) * 5)), (5, .int (-1)), (4, .int (-1)), (0, .int x), (1, .int f), (2, .int t)]) F.1 F.2.1 d_PA_whenPut_47 rfl hl (by decide) rfl (fun ls hl => ?_)
    refine lv_iinc (v := ((-1) + 1)) (lv' := [(5, .int ((-1) + 1)), (3, .int ((x - f) * 5)), (4, .int (-1)), (0, .int x), (1, .int f), (2, .int t)]) F.1 F.2.1 d_PA_whenPut_48 hl (k := 1) rfl rfl (by decide) rfl (fun ls hl => ?_)
    refine lv_goto (tgt := 39) F.1 F.2.1 d_PA_whenPut_51 (by decide) ?_
    refine lv_iload F.1 F.2.1 d_PA_whenPut_39 (lv_at hl 0 rfl) ?_
    refine lv_if_ge (tgt := 54) F.1 F.2.1 d_PA_whenPut_41 (by decide) (fun _ => ?_) (fun zq => absurd ((by decide)) zq)
    refine lv_iload_n F.1 F.2.1 d_PA_whenPut_54 rfl (lv_at hl 5 rfl) ?_
    refine lv_iload_n F.1 F.2.1 d_PA_whenPut_55 rfl (lv_at hl 1 rfl) ?_
    refine lv_iadd F.1 F.2.1 d_PA_whenPut_56 ?_
    exact hret _ _ _ d_PA_whenPut_57 rfl
  · skip
    refine lv_istore (lv' := [(4, .int (-2)), (3, .int (x - f)), (0, .int x), (1, .int f), (2, .int t)]) F.1 F.2.1 d_PA_whenPut_13 hl (by decide) rfl (fun ls hl => ?_)
    refine lv_iconst (v := 0) F.1 F.2.1 d_PA_whenPut_15 (by decide) ?_
    refine lv_istore (lv' := [(5, .int 0), (4, .int (-2)), (3, .int (x - f)), (0, .int x), (1, .int f), (2, .int t)]) F.1 F.2.1 d_PA_whenPut_16 hl (by decide) rfl (fun ls hl => ?_)
    refine lv_iload F.1 F.2.1 d_PA_whenPut_18 (lv_at hl 0 rfl) ?_
    refine lv_iload F.1 F.2.1 d_PA_whenPut_20 (lv_at hl 1 rfl) ?_
    refine lv_icmp_ge (tgt := 35) F.1 F.2.1 d_PA_whenPut_22 (by decide) (fun _ => ?_) (fun zq => absurd ((by decide)) zq)
    refine lv_iload F.1 F.2.1 d_PA_whenPut_35 (lv_at hl 1 rfl) ?_
    refine lv_istore (lv' := [(5, .int (-2)), (4, .int (-2)), (3, .int (x - f)), (0, .int x), (1, .int f), (2, .int t)]) F.1 F.2.1 d_PA_whenPut_37 hl (by decide) rfl (fun ls hl => ?_)
    refine lv_iload F.1 F.2.1 d_PA_whenPut_39 (lv_at hl 0 rfl) ?_
    refine lv_if_ge (tgt := 54) F.1 F.2.1 d_PA_whenPut_41 (by decide) (fun zq => absurd zq ((by decide))) (fun _ => ?_)
    refine lv_iload_n F.1 F.2.1 d_PA_whenPut_44 rfl (lv_at hl 2 rfl) ?_
    refine lv_iconst (v := 5) F.1 F.2.1 d_PA_whenPut_45 (by decide) ?_
    refine lv_imul F.1 F.2.1 d_PA_whenPut_46 ?_
    refine lv_istore_n (lv' := [(3, .int ((x - f) * 5)), (5, .int (-2)), (4, .int (-2)), (0, .int x), (1, .int f), (2, .int t)]) F.1 F.2.1 d_PA_whenPut_47 rfl hl (by decide) rfl (fun ls hl => ?_)
    refine lv_iinc (v := ((-2) + 1)) (lv' := [(5, .int ((-2) + 1)), (3, .int ((x - f) * 5)), (4, .int (-2)), (0, .int x), (1, .int f), (2, .int t)]) F.1 F.2.1 d_PA_whenPut_48 hl (k := 1) rfl rfl (by decide) rfl (fun ls hl => ?_)
    refine lv_goto (tgt := 39) F.1 F.2.1 d_PA_whenPut_51 (by decide) ?_
    refine lv_iload F.1 F.2.1 d_PA_whenPut_39 (lv_at hl 0 rfl) ?_
    refine lv_if_ge (tgt := 54) F.1 F.2.1 d_PA_whenPut_41 (by decide) (fun zq => absurd zq ((by decide))) (fun _ => ?_)
    refine lv_iload_n F.1 F.2.1 d_PA_whenPut_44 rfl (lv_at hl 1 rfl) ?_
    refine lv_iconst (v := 5) F.1 F.2.1 d_PA_whenPut_45 (by decide) ?_
    refine lv_imul F.1 F.2.1 d_PA_whenPut_46 ?_
    refine lv_istore_n (lv' := [(3, .int (((x - f) * 5) * 5)), (5, .int ((-2) + 1)), (4, .int (-2)), (0, .int x), (1, .int f), (2, .int t)]) F.1 F.2.1 d_PA_whenPut_47 rfl hl (by decide) rfl (fun ls hl => ?_)
    refine lv_iinc (v := (((-2) + 1) + 1)) (lv' := [(5, .int (((-2) + 1) + 1)), (3, .int (((x - f) * 5) * 5)), (4, .int (-2)), (0, .int x), (1, .int f), (2, .int t)]) F.1 F.2.1 d_PA_whenPut_48 hl (k := 1) rfl rfl (by decide) rfl (fun ls hl => ?_)
    refine lv_goto (tgt := 39) F.1 F.2.1 d_PA_whenPut_51 (by decide) ?_
    refine lv_iload F.1 F.2.1 d_PA_whenPut_39 (lv_at hl 0 rfl) ?_
    refine lv_if_ge (tgt := 54) F.1 F.2.1 d_PA_whenPut_41 (by decide) (fun _ => ?_) (fun zq => absurd ((by decide)) zq)
    refine lv_iload_n F.1 F.2.1 d_PA_whenPut_54 rfl (lv_at hl 5 rfl) ?_
    refine lv_iload_n F.1 F.2.1 d_PA_whenPut_55 rfl (lv_at hl 1 rfl) ?_
    refine lv_iadd F.1 F.2.1 d_PA_whenPut_56 ?_
    exact hret _ _ _ d_PA_whenPut_57 rfl
end
section
/-! ===== the model's static functions ===== -/
theorem c_MO_depth (l : Launch) (G : x_G) (x : Int32) : Met l y_MO_depth (x_ws y_MO_depth b_MO_depth 1 (some .int)) (x_rm 0 0 0) (x_P G [.int x] (fun _ => True)) (k2_QcV (.int (pj_names x))) 0 0 (fun _ => False) := by
  refine x_mI (by decide +kernel) (Nat.le_of_ble_eq_true rfl) (fun p e s m args below meth c F hK hP ls hl Q hret => ?_)
  have hl : lv_has ls 1 [(0, .int x)] := hl
  refine lv_iload_n F.1 F.2.1 d_MO_depth_0 rfl (lv_at hl 0 rfl) ?_
  refine lv_if_ne (tgt := 8) F.1 F.2.1 d_MO_depth_1 (by decide) (fun c1 => ?_) (fun c1 => ?_)
  · refine lv_iload_n F.1 F.2.1 d_MO_depth_8 rfl (lv_at hl 0 rfl) ?_
    refine lv_bipush (v := 25) F.1 F.2.1 d_MO_depth_9 (by decide) ?_
    refine lv_irem F.1 F.2.1 d_MO_depth_11 (by decide) ?_
    refine lv_if_ne (tgt := 19) F.1 F.2.1 d_MO_depth_12 (by decide) (fun c12 => ?_) (fun c12 => ?_)
    · refine lv_iload_n F.1 F.2.1 d_MO_depth_19 rfl (lv_at hl 0 rfl) ?_
      refine lv_iconst (v := 5) F.1 F.2.1 d_MO_depth_20 (by decide) ?_
      refine lv_irem F.1 F.2.1 d_MO_depth_21 (by decide) ?_
      refine lv_if_ne (tgt := 29) F.1 F.2.1 d_MO_depth_22 (by decide) (fun c22 => ?_) (fun c22 => ?_)
      · refine lv_iconst (v := 3) F.1 F.2.1 d_MO_depth_29 (by decide) ?_
        exact hret _ _ _ d_MO_depth_30 (by unfold pj_names pj_rem; simp_all)
      · refine lv_iconst (v := 2) F.1 F.2.1 d_MO_depth_25 (by decide) ?_
        refine lv_goto (tgt := 30) F.1 F.2.1 d_MO_depth_26 (by decide) ?_
        exact hret _ _ _ d_MO_depth_30 (by unfold pj_names pj_rem; simp_all)
    · refine lv_iconst (v := 1) F.1 F.2.1 d_MO_depth_15 (by decide) ?_
      refine lv_goto (tgt := 30) F.1 F.2.1 d_MO_depth_16 (by decide) ?_
      exact hret _ _ _ d_MO_depth_30 (by unfold pj_names pj_rem; simp_all)
  · refine lv_iconst (v := 0) F.1 F.2.1 d_MO_depth_4 (by decide) ?_
    refine lv_goto (tgt := 30) F.1 F.2.1 d_MO_depth_5 (by decide) ?_
    exact hret _ _ _ d_MO_depth_30 (by unfold pj_names pj_rem; simp_all)
def mo_legal (x : Int32) : Bool := !decide (x ≤ 0) && !decide (125 ≤ x) && !decide (x / 25 ≤ 0) && (decide (0 < pj_rem (x / 5) 5) || decide (pj_rem x 5 = 0))
theorem c_MO_legal (l : Launch) (G : x_G) (x : Int32) : Met l y_MO_legal (x_ws y_MO_legal b_MO_legal 1 (some .boolean)) (x_rm 0 0 0) (x_P G [.int x] (fun _ => True)) (k2_QcV (.int (x_b (mo_legal x)))) 0 0 (fun _ => False) := by
  refine x_mZ (by decide +kernel) (Nat.le_of_ble_eq_true rfl) (fun p e s m args below meth c F hK hP ls hl Q hret => ?_)
  have hl : lv_has ls 1 [(0, .int x)] := hl
  refine lv_iload_n F.1 F.2.1 d_MO_legal_0 rfl (lv_at hl 0 rfl) ?_
  refine lv_if_le (tgt := 35) F.1 F.2.1 d_MO_legal_1 (by decide) (fun c1 => ?_) (fun c1 => ?_)
  · refine lv_iconst (v := 0) F.1 F.2.1 d_MO_legal_35 (by decide) ?_
    exact hret _ _ _ d_MO_legal_36 (by simp only [pj_rem, mo_legal]; simp [x_b, c1])
  · refine lv_iload_n F.1 F.2.1 d_MO_legal_4 rfl (lv_at hl 0 rfl) ?_
    refine lv_bipush (v := 125) F.1 F.2.1 d_MO_legal_5 (by decide) ?_
    refine lv_icmp_ge (tgt := 35) F.1 F.2.1 d_MO_legal_7 (by decide) (fun c7 => ?_) (fun c7 => ?_)
    · refine lv_iconst (v := 0) F.1 F.2.1 d_MO_legal_35 (by decide) ?_
      exact hret _ _ _ d_MO_legal_36 (by simp only [pj_rem, mo_legal]; simp [x_b, c1, c7])
    · refine lv_iload_n F.1 F.2.1 d_MO_legal_10 rfl (lv_at hl 0 rfl) ?_
      refine lv_bipush (v := 25) F.1 F.2.1 d_MO_legal_11 (by decide) ?_
      refine lv_idiv F.1 F.2.1 d_MO_legal_13 (by decide) ?_
      refine lv_if_le (tgt := 35) F.1 F.2.1 d_MO_legal_14 (by decide) (fun c14 => ?_) (fun c14 => ?_)
      · refine lv_iconst (v := 0) F.1 F.2.1 d_MO_legal_35 (by decide) ?_
        exact hret _ _ _ d_MO_legal_36 (by simp only [pj_rem, mo_legal]; simp [x_b, c1, c7, c14])
      · refine lv_iload_n F.1 F.2.1 d_MO_legal_17 rfl (lv_at hl 0 rfl) ?_
        refine lv_iconst (v := 5) F.1 F.2.1 d_MO_legal_18 (by decide) ?_
        refine lv_idiv F.1 F.2.1 d_MO_legal_19 (by decide) ?_
        refine lv_iconst (v := 5) F.1 F.2.1 d_MO_legal_20 (by decide) ?_
        refine lv_irem F.1 F.2.1 d_MO_legal_21 (by decide) ?_
        refine lv_if_gt (tgt := 31) F.1 F.2.1 d_MO_legal_22 (by decide) (fun c22 => ?_) (fun c22 => ?_)
        · refine lv_iconst (v := 1) F.1 F.2.1 d_MO_legal_31 (by decide) ?_
          refine lv_goto (tgt := 36) F.1 F.2.1 d_MO_legal_32 (by decide) ?_
          exact hret _ _ _ d_MO_legal_36 (by simp only [pj_rem, mo_legal]; simp [x_b, c1, c7, c14, c22])
        · refine lv_iload_n F.1 F.2.1 d_MO_legal_25 rfl (lv_at hl 0 rfl) ?_
          refine lv_iconst (v := 5) F.1 F.2.1 d_MO_legal_26 (by decide) ?_
          refine lv_irem F.1 F.2.1 d_MO_legal_27 (by decide) ?_
          refine lv_if_ne (tgt := 35) F.1 F.2.1 d_MO_legal_28 (by decide) (fun c28 => ?_) (fun c28 => ?_)
          · refine lv_iconst (v := 0) F.1 F.2.1 d_MO_legal_35 (by decide) ?_
            exact hret _ _ _ d_MO_legal_36 (by simp only [pj_rem, mo_legal]; simp [x_b, c1, c7, c14, c22, c28])
          · refine lv_iconst (v := 1) F.1 F.2.1 d_MO_legal_31 (by decide) ?_
            refine lv_goto (tgt := 36) F.1 F.2.1 d_MO_legal_32 (by decide) ?_
            exact hret _ _ _ d_MO_legal_36 (by simp only [pj_rem, mo_legal]; simp [x_b, c1, c7, c14, c22, c28])
def mo_head (x n : Int32) : Int32 := if n = 0 then 0 else if n = 1 then x / 25 * 25 else if n = 2 then x / 5 * 5 else x
theorem c_MO_head (l : Launch) (G : x_G) (x n : Int32) : Met l y_MO_head (x_ws y_MO_head b_MO_head 2 (some .int)) (x_rm 0 0 0) (x_P G [.int x, .int n] (fun _ => True)) (k2_QcV (.int (mo_head x n))) 0 0 (fun _ => False) := by
  refine x_mI (by decide +kernel) (Nat.le_of_ble_eq_true rfl) (fun p e s m args below meth c F hK hP ls hl Q hret => ?_)
  have hl : lv_has ls 2 [(0, .int x), (1, .int n)] := hl
  refine lv_iload_n F.1 F.2.1 d_MO_head_0 rfl (lv_at hl 1 rfl) ?_
  refine lv_if_ne (tgt := 8) F.1 F.2.1 d_MO_head_1 (by decide) (fun c1 => ?_) (fun c1 => ?_)
  · refine lv_iload_n F.1 F.2.1 d_MO_head_8 rfl (lv_at hl 1 rfl) ?_
    refine lv_iconst (v := 1) F.1 F.2.1 d_MO_head_9 (by decide) ?_
    refine lv_icmp_ne (tgt := 23) F.1 F.2.1 d_MO_head_10 (by decide) (fun c10 => ?_) (fun c10 => ?_)
    · refine lv_iload_n F.1 F.2.1 d_MO_head_23 rfl (lv_at hl 1 rfl) ?_
      refine lv_iconst (v := 2) F.1 F.2.1 d_MO_head_24 (by decide) ?_
      refine lv_icmp_ne (tgt := 36) F.1 F.2.1 d_MO_head_25 (by decide) (fun c25 => ?_) (fun c25 => ?_)
      · refine lv_iload_n F.1 F.2.1 d_MO_head_36 rfl (lv_at hl 0 rfl) ?_
        exact hret _ _ _ d_MO_head_37 (by unfold mo_head; simp_all)
      · refine lv_iload_n F.1 F.2.1 d_MO_head_28 rfl (lv_at hl 0 rfl) ?_
        refine lv_iconst (v := 5) F.1 F.2.1 d_MO_head_29 (by decide) ?_
        refine lv_idiv F.1 F.2.1 d_MO_head_30 (by decide) ?_
        refine lv_iconst (v := 5) F.1 F.2.1 d_MO_head_31 (by decide) ?_
        refine lv_imul F.1 F.2.1 d_MO_head_32 ?_
        refine lv_goto (tgt := 37) F.1 F.2.1 d_MO_head_33 (by decide) ?_
        exact hret _ _ _ d_MO_head_37 (by unfold mo_head; simp_all)
    · refine lv_iload_n F.1 F.2.1 d_MO_head_13 rfl (lv_at hl 0 rfl) ?_
      refine lv_bipush (v := 25) F.1 F.2.1 d_MO_head_14 (by decide) ?_
      refine lv_idiv F.1 F.2.1 d_MO_head_16 (by decide) ?_
      refine lv_bipush (v := 25) F.1 F.2.1 d_MO_head_17 (by decide) ?_
      refine lv_imul F.1 F.2.1 d_MO_head_19 ?_
      refine lv_goto (tgt := 37) F.1 F.2.1 d_MO_head_20 (by decide) ?_
      exact hret _ _ _ d_MO_head_37 (by unfold mo_head; simp_all)
  · refine lv_iconst (v := 0) F.1 F.2.1 d_MO_head_4 (by decide) ?_
    refine lv_goto (tgt := 37) F.1 F.2.1 d_MO_head_5 (by decide) ?_
    exact hret _ _ _ d_MO_head_37 (by unfold mo_head; simp_all)
def mo_above (x : Int32) : Int32 := mo_head x (pj_names x - 1)
theorem c_MO_above (l : Launch) (G : x_G) (x : Int32) : Met l y_MO_above (x_ws y_MO_above b_MO_above 1 (some .int)) (x_rm 1 0 0) (x_P G [.int x] (fun _ => True)) (k2_QcV (.int (mo_above x))) 0 0 (fun _ => False) := by
  refine x_mI (by decide +kernel) (Nat.le_of_ble_eq_true rfl) (fun p e s m args below meth c F hK hP ls hl Q hret => ?_)
  have hl : lv_has ls 1 [(0, .int x)] := hl
  refine lv_iload_n F.1 F.2.1 d_MO_above_0 rfl (lv_at hl 0 rfl) ?_
  refine lv_iload_n F.1 F.2.1 d_MO_above_1 rfl (lv_at hl 0 rfl) ?_
  refine x_rd (x_S (n := 1) (As := [.int x]) F (c_MO_depth l G x) ok_MO_depth k531 ⟨Nat.le_of_ble_eq_true rfl, Nat.le_of_ble_eq_true rfl⟩ rfl rfl hK (trivial) rfl hl.1 rfl (Nat.le_of_ble_eq_true rfl) d_MO_above_2 ⟨Nat.le_of_ble_eq_true rfl, Nat.le_of_ble_eq_true rfl⟩) ?_
  refine lv_iconst (v := 1) F.1 F.2.1 d_MO_above_5 (by decide) ?_
  refine lv_isub F.1 F.2.1 d_MO_above_6 ?_
  refine x_rd (x_S (n := 2) (As := [.int x, .int ((pj_names x) - 1)]) F (c_MO_head l G x ((pj_names x) - 1)) ok_MO_head k534 ⟨Nat.le_of_ble_eq_true rfl, Nat.le_of_ble_eq_true rfl⟩ rfl rfl hK (trivial) rfl hl.1 rfl (Nat.le_of_ble_eq_true rfl) d_MO_above_7 ⟨Nat.le_of_ble_eq_true rfl, Nat.le_of_ble_eq_true rfl⟩) ?_
  exact hret _ _ _ d_MO_above_10 (rfl)
def mo_below (q x : Int32) : Bool := mo_legal q && !decide (pj_names q ≤ pj_names x) && decide (mo_head q (pj_names x) = x)
theorem c_MO_below (l : Launch) (G : x_G) (q x : Int32) : Met l y_MO_below (x_ws y_MO_below b_MO_below 2 (some .boolean)) (x_rm 1 0 0) (x_P G [.int q, .int x] (fun _ => True)) (k2_QcV (.int (x_b (mo_below q x)))) 0 0 (fun _ => False) := by
  refine x_mZ (by decide +kernel) (Nat.le_of_ble_eq_true rfl) (fun p e s m args below meth c F hK hP ls hl Q hret => ?_)
  have hl : lv_has ls 2 [(0, .int q), (1, .int x)] := hl
  refine lv_iload_n F.1 F.2.1 d_MO_below_0 rfl (lv_at hl 0 rfl) ?_
  refine x_rd (x_S (n := 1) (As := [.int q]) F (c_MO_legal l G q) ok_MO_legal k516 ⟨Nat.le_of_ble_eq_true rfl, Nat.le_of_ble_eq_true rfl⟩ rfl rfl hK (trivial) rfl hl.1 rfl (Nat.le_of_ble_eq_true rfl) d_MO_below_1 ⟨Nat.le_of_ble_eq_true rfl, Nat.le_of_ble_eq_true rfl⟩) ?_
  refine x_beq (tgt := 34) F d_MO_below_4 (by decide) (fun c4 => ?_) (fun c4 => ?_)
  · refine lv_iconst (v := 0) F.1 F.2.1 d_MO_below_34 (by decide) ?_
    exact hret _ _ _ d_MO_below_35 (by simp [mo_below, x_b, c4])
  · refine lv_iload_n F.1 F.2.1 d_MO_below_7 rfl (lv_at hl 0 rfl) ?_
    refine x_rd (x_S (n := 1) (As := [.int q]) F (c_MO_depth l G q) ok_MO_depth k531 ⟨Nat.le_of_ble_eq_true rfl, Nat.le_of_ble_eq_true rfl⟩ rfl rfl hK (trivial) rfl hl.1 rfl (Nat.le_of_ble_eq_true rfl) d_MO_below_8 ⟨Nat.le_of_ble_eq_true rfl, Nat.le_of_ble_eq_true rfl⟩) ?_
    refine lv_iload_n F.1 F.2.1 d_MO_below_11 rfl (lv_at hl 1 rfl) ?_
    refine x_rd (x_S (n := 1) (As := [.int x]) F (c_MO_depth l G x) ok_MO_depth k531 ⟨Nat.le_of_ble_eq_true rfl, Nat.le_of_ble_eq_true rfl⟩ rfl rfl hK (trivial) rfl hl.1 rfl (Nat.le_of_ble_eq_true rfl) d_MO_below_12 ⟨Nat.le_of_ble_eq_true rfl, Nat.le_of_ble_eq_true rfl⟩) ?_
    refine lv_icmp_le (tgt := 34) F.1 F.2.1 d_MO_below_15 (by decide) (fun c15 => ?_) (fun c15 => ?_)
    · refine lv_iconst (v := 0) F.1 F.2.1 d_MO_below_34 (by decide) ?_
      exact hret _ _ _ d_MO_below_35 (by simp [mo_below, x_b, c4, c15])
    · refine lv_iload_n F.1 F.2.1 d_MO_below_18 rfl (lv_at hl 0 rfl) ?_
      refine lv_iload_n F.1 F.2.1 d_MO_below_19 rfl (lv_at hl 1 rfl) ?_
      refine x_rd (x_S (n := 1) (As := [.int x]) F (c_MO_depth l G x) ok_MO_depth k531 ⟨Nat.le_of_ble_eq_true rfl, Nat.le_of_ble_eq_true rfl⟩ rfl rfl hK (trivial) rfl hl.1 rfl (Nat.le_of_ble_eq_true rfl) d_MO_below_20 ⟨Nat.le_of_ble_eq_true rfl, Nat.le_of_ble_eq_true rfl⟩) ?_
      refine x_rd (x_S (n := 2) (As := [.int q, .int (pj_names x)]) F (c_MO_head l G q (pj_names x)) ok_MO_head k534 ⟨Nat.le_of_ble_eq_true rfl, Nat.le_of_ble_eq_true rfl⟩ rfl rfl hK (trivial) rfl hl.1 rfl (Nat.le_of_ble_eq_true rfl) d_MO_below_23 ⟨Nat.le_of_ble_eq_true rfl, Nat.le_of_ble_eq_true rfl⟩) ?_
      refine lv_iload_n F.1 F.2.1 d_MO_below_26 rfl (lv_at hl 1 rfl) ?_
      refine lv_icmp_ne (tgt := 34) F.1 F.2.1 d_MO_below_27 (by decide) (fun c27 => ?_) (fun c27 => ?_)
      · refine lv_iconst (v := 0) F.1 F.2.1 d_MO_below_34 (by decide) ?_
        exact hret _ _ _ d_MO_below_35 (by simp [mo_below, x_b, c4, c15, c27])
      · refine lv_iconst (v := 1) F.1 F.2.1 d_MO_below_30 (by decide) ?_
        refine lv_goto (tgt := 35) F.1 F.2.1 d_MO_below_31 (by decide) ?_
        exact hret _ _ _ d_MO_below_35 (by simp [mo_below, x_b, c4, c15, c27])
def mo_name (x k : Int32) : Int32 := if k = 0 then x / 25 else if k = 1 then pj_rem (x / 5) 5 else pj_rem x 5
theorem c_MO_name (l : Launch) (G : x_G) (x k : Int32) : Met l y_MO_name (x_ws y_MO_name b_MO_name 2 (some .int)) (x_rm 0 0 0) (x_P G [.int x, .int k] (fun _ => True)) (k2_QcV (.int (mo_name x k))) 0 0 (fun _ => False) := by
  refine x_mI (by decide +kernel) (Nat.le_of_ble_eq_true rfl) (fun p e s m args below meth c F hK hP ls hl Q hret => ?_)
  have hl : lv_has ls 2 [(0, .int x), (1, .int k)] := hl
  refine lv_iload_n F.1 F.2.1 d_MO_name_0 rfl (lv_at hl 1 rfl) ?_
  refine lv_if_ne (tgt := 11) F.1 F.2.1 d_MO_name_1 (by decide) (fun c1 => ?_) (fun c1 => ?_)
  · refine lv_iload_n F.1 F.2.1 d_MO_name_11 rfl (lv_at hl 1 rfl) ?_
    refine lv_iconst (v := 1) F.1 F.2.1 d_MO_name_12 (by decide) ?_
    refine lv_icmp_ne (tgt := 24) F.1 F.2.1 d_MO_name_13 (by decide) (fun c13 => ?_) (fun c13 => ?_)
    · refine lv_iload_n F.1 F.2.1 d_MO_name_24 rfl (lv_at hl 0 rfl) ?_
      refine lv_iconst (v := 5) F.1 F.2.1 d_MO_name_25 (by decide) ?_
      refine lv_irem F.1 F.2.1 d_MO_name_26 (by decide) ?_
      exact hret _ _ _ d_MO_name_27 (by unfold mo_name pj_rem; simp_all)
    · refine lv_iload_n F.1 F.2.1 d_MO_name_16 rfl (lv_at hl 0 rfl) ?_
      refine lv_iconst (v := 5) F.1 F.2.1 d_MO_name_17 (by decide) ?_
      refine lv_idiv F.1 F.2.1 d_MO_name_18 (by decide) ?_
      refine lv_iconst (v := 5) F.1 F.2.1 d_MO_name_19 (by decide) ?_
      refine lv_irem F.1 F.2.1 d_MO_name_20 (by decide) ?_
      refine lv_goto (tgt := 27) F.1 F.2.1 d_MO_name_21 (by decide) ?_
      exact hret _ _ _ d_MO_name_27 (by unfold mo_name pj_rem; simp_all)
  · refine lv_iload_n F.1 F.2.1 d_MO_name_4 rfl (lv_at hl 0 rfl) ?_
    refine lv_bipush (v := 25) F.1 F.2.1 d_MO_name_5 (by decide) ?_
    refine lv_idiv F.1 F.2.1 d_MO_name_7 (by decide) ?_
    refine lv_goto (tgt := 27) F.1 F.2.1 d_MO_name_8 (by decide) ?_
    exact hret _ _ _ d_MO_name_27 (by unfold mo_name pj_rem; simp_all)
abbrev wABS : Int64 := 10000000000
abbrev wDIR : Int64 := 10000000001
abbrev wGON : Int64 := 10000000002
abbrev wNON : Int64 := 10000000003
def mo_file (w : Int64) : Bool := !decide (w = wABS) && !decide (w = wDIR)
theorem c_MO_file (l : Launch) (G : x_G) (w : Int64) : Met l y_MO_file (x_ws y_MO_file b_MO_file 2 (some .boolean)) (x_rm 0 0 0) (x_P G [.long w] (fun _ => True)) (k2_QcV (.int (x_b (mo_file w)))) 0 0 (fun _ => False) := by
  refine x_mZ (by decide +kernel) (Nat.le_of_ble_eq_true rfl) (fun p e s m args below meth c F hK hP ls hl Q hret => ?_)
  have hl : lv_has ls 2 [(0, .long w)] := hl
  refine lv_lload_n F.1 F.2.1 d_MO_file_0 rfl (lv_at hl 0 rfl) ?_
  refine x_cst F k478 d_MO_file_1 ?_
  refine x_leq (tgt := 20) F d_MO_file_4 d_MO_file_5 (by decide) (fun c4 => ?_) (fun c4 => ?_)
  · refine lv_iconst (v := 0) F.1 F.2.1 d_MO_file_20 (by decide) ?_
    exact hret _ _ _ d_MO_file_21 (by simp_all [mo_file, x_b])
  · refine lv_lload_n F.1 F.2.1 d_MO_file_8 rfl (lv_at hl 0 rfl) ?_
    refine x_cst F k477 d_MO_file_9 ?_
    refine x_leq (tgt := 20) F d_MO_file_12 d_MO_file_13 (by decide) (fun c12 => ?_) (fun c12 => ?_)
    · refine lv_iconst (v := 0) F.1 F.2.1 d_MO_file_20 (by decide) ?_
      exact hret _ _ _ d_MO_file_21 (by simp_all [mo_file, x_b])
    · refine lv_iconst (v := 1) F.1 F.2.1 d_MO_file_16 (by decide) ?_
      refine lv_goto (tgt := 21) F.1 F.2.1 d_MO_file_17 (by decide) ?_
      exact hret _ _ _ d_MO_file_21 (by simp_all [mo_file, x_b])
def mo_badTag (s t : Int32) : Bool := decide (s < 0) || decide (1 < s) || decide (t < 0) || !decide (t ≤ 5)
theorem c_MO_badTag (l : Launch) (G : x_G) (s0 t : Int32) : Met l y_MO_badTag (x_ws y_MO_badTag b_MO_badTag 2 (some .boolean)) (x_rm 0 0 0) (x_P G [.int s0, .int t] (fun _ => True)) (k2_QcV (.int (x_b (mo_badTag s0 t)))) 0 0 (fun _ => False) := by
  refine x_mZ (by decide +kernel) (Nat.le_of_ble_eq_true rfl) (fun p e s m args below meth c F hK hP ls hl Q hret => ?_)
  have hl : lv_has ls 2 [(0, .int s0), (1, .int t)] := hl
  refine lv_iload_n F.1 F.2.1 d_MO_badTag_0 rfl (lv_at hl 0 rfl) ?_
  refine lv_if_lt (tgt := 18) F.1 F.2.1 d_MO_badTag_1 (by decide) (fun c1 => ?_) (fun c1 => ?_)
  · refine lv_iconst (v := 1) F.1 F.2.1 d_MO_badTag_18 (by decide) ?_
    refine lv_goto (tgt := 23) F.1 F.2.1 d_MO_badTag_19 (by decide) ?_
    exact hret _ _ _ d_MO_badTag_23 (by simp [mo_badTag, x_b, c1])
  · refine lv_iload_n F.1 F.2.1 d_MO_badTag_4 rfl (lv_at hl 0 rfl) ?_
    refine lv_iconst (v := 1) F.1 F.2.1 d_MO_badTag_5 (by decide) ?_
    refine lv_icmp_gt (tgt := 18) F.1 F.2.1 d_MO_badTag_6 (by decide) (fun c6 => ?_) (fun c6 => ?_)
    · refine lv_iconst (v := 1) F.1 F.2.1 d_MO_badTag_18 (by decide) ?_
      refine lv_goto (tgt := 23) F.1 F.2.1 d_MO_badTag_19 (by decide) ?_
      exact hret _ _ _ d_MO_badTag_23 (by simp [mo_badTag, x_b, c1, c6])
    · refine lv_iload_n F.1 F.2.1 d_MO_badTag_9 rfl (lv_at hl 1 rfl) ?_
      refine lv_if_lt (tgt := 18) F.1 F.2.1 d_MO_badTag_10 (by decide) (fun c10 => ?_) (fun c10 => ?_)
      · refine lv_iconst (v := 1) F.1 F.2.1 d_MO_badTag_18 (by decide) ?_
        refine lv_goto (tgt := 23) F.1 F.2.1 d_MO_badTag_19 (by decide) ?_
        exact hret _ _ _ d_MO_badTag_23 (by simp [mo_badTag, x_b, c1, c6, c10])
      · refine lv_iload_n F.1 F.2.1 d_MO_badTag_13 rfl (lv_at hl 1 rfl) ?_
        refine lv_iconst (v := 5) F.1 F.2.1 d_MO_badTag_14 (by decide) ?_
        refine lv_icmp_le (tgt := 22) F.1 F.2.1 d_MO_badTag_15 (by decide) (fun c15 => ?_) (fun c15 => ?_)
        · refine lv_iconst (v := 0) F.1 F.2.1 d_MO_badTag_22 (by decide) ?_
          exact hret _ _ _ d_MO_badTag_23 (by simp [mo_badTag, x_b, c1, c6, c10, c15])
        · refine lv_iconst (v := 1) F.1 F.2.1 d_MO_badTag_18 (by decide) ?_
          refine lv_goto (tgt := 23) F.1 F.2.1 d_MO_badTag_19 (by decide) ?_
          exact hret _ _ _ d_MO_badTag_23 (by simp [mo_badTag, x_b, c1, c6, c10, c15])
end
section
/-! ===== paths as numbers ===== -/
def nm (p : Nat) : Nat := if p = 0 then 0 else if p % 25 = 0 then 1 else if p % 5 = 0 then 2 else 3
def lg (p : Nat) : Bool := decide (25 ≤ p) && decide (p < 125) && (decide (p / 5 % 5 ≠ 0) || decide (p % 5 = 0))
def pa (p : Nat) : Nat := if nm p = 2 then p - p % 25 else if nm p = 3 then p - p % 5 else 0
def en (p : Nat) : Nat := if nm p = 1 then p + 25 else if nm p = 2 then p + 5 else p + 1
def hd (p n : Nat) : Nat := if n = 0 then 0 else if n = 1 then p / 25 * 25 else if n = 2 then p / 5 * 5 else p
def bl (q x : Nat) : Bool := lg q && decide (nm x < nm q) && decide (hd q (nm x) = x)
/-- where q comes to lie when a is put at b -/
def wp (q a b : Nat) : Nat := b + (if nm a = nm b then q - a else if nm b = nm a + 1 then (q - a) / 5 else if nm b = nm a + 2 then (q - a) / 5 / 5 else if nm a = nm b + 1 then (q - a) * 5 else (q - a) * 5 * 5)
theorem nm_lt (p : Nat) : nm p < 4 := by
  unfold nm
  split
  · decide
  · split
    · decide
    · split <;> decide
theorem pj_names_n : ∀ p, p < 125 → pj_names (nI p) = nI (nm p) := by decide +kernel
theorem pj_parent_n : ∀ p, p < 125 → pj_parent (nI p) = nI (pa p) := by decide +kernel
theorem pj_end_n : ∀ p, p < 125 → pj_end (nI p) = nI (en p) := by decide +kernel
theorem pj_legal_n : ∀ p, p < 125 → pj_legal (nI p) = lg p := by decide +kernel
theorem mo_legal_n : ∀ p, p < 125 → mo_legal (nI p) = lg p := by decide +kernel
theorem mo_above_n : ∀ p, p < 125 → mo_above (nI p) = nI (pa p) := by decide +kernel
theorem mo_head_n : ∀ p, p < 125 → ∀ n, n < 4 → mo_head (nI p) (nI n) = nI (hd p n) := by decide +kernel
theorem pa_lt : ∀ p, p < 125 → pa p < 125 := by decide +kernel
theorem hd_lt : ∀ p, p < 125 → ∀ n, n < 4 → hd p n < 125 := by decide +kernel
theorem en_le : ∀ p, p < 125 → lg p = true → p < en p ∧ en p ≤ 125 := by decide +kernel
theorem bl_iff : ∀ x, x < 125 → lg x = true → ∀ q, q < 125 → (bl q x = true ↔ lg q = true ∧ x < q ∧ q < en x) := by decide +kernel
theorem mo_below_n {q x : Nat} (hq : q < 125) (hx : x < 125) : mo_below (nI q) (nI x) = bl q x := by
  unfold mo_below bl
  rw [mo_legal_n q hq, pj_names_n q hq, pj_names_n x hx, mo_head_n q hq _ (nm_lt x)]
  have h1 : decide (nI (nm q) ≤ nI (nm x)) = decide (nm q ≤ nm x) := by
    have a := nm_lt q
    have b := nm_lt x
    exact decide_eq_decide.mpr (nI_leI (by omega) (by omega))
  have h2 : decide (nI (hd q (nm x)) = nI x) = decide (hd q (nm x) = x) := by
    have a := hd_lt q hq _ (nm_lt x)
    exact decide_eq_decide.mpr (nI_eq (by omega) (by omega))
  rw [h1, h2]
  congr 1
  congr 1
  by_cases h : nm q ≤ nm x
  · rw [decide_eq_true h, decide_eq_false (by omega)]; rfl
  · rw [decide_eq_false h, decide_eq_true (by omega)]; rfl
theorem pj_legal_out {x : Int32} (h : x < 0 ∨ 125 ≤ x) : pj_legal x = false := by
  unfold pj_legal
  rw [decide_eq_false, Bool.false_and]
  rintro ⟨h1, h2⟩
  rcases h with h | h
  · exact absurd (Int32.lt_of_lt_of_le h (by decide : (0 : Int32) ≤ 25)) (Int32.not_lt.mpr h1)
  · exact absurd h2 (Int32.not_lt.mpr h)
theorem mo_legal_out {x : Int32} (h : x < 0 ∨ 125 ≤ x) : mo_legal x = false := by
  unfold mo_legal
  rcases h with h | h
  · rw [decide_eq_true (show x ≤ 0 from Int32.le_of_lt h)]; rfl
  · rw [decide_eq_true h]; simp
theorem x_range (x : Int32) : (x < 0 ∨ 125 ≤ x) ∨ ∃ p : Nat, p < 125 ∧ x = nI p := by
  rcases pk_ix x (n := 125) (by decide) with h | h | ⟨j, h1, h2⟩
  · exact Or.inl (Or.inl h)
  · exact Or.inl (Or.inr h)
  · exact Or.inr ⟨j, h1, h2⟩
theorem mo_pj_legal (x : Int32) : mo_legal x = pj_legal x := by
  rcases x_range x with h | ⟨p, h1, rfl⟩
  · rw [mo_legal_out h, pj_legal_out h]
  · rw [mo_legal_n p h1, pj_legal_n p h1]
theorem legal_of {x : Int32} (h : pj_legal x = true) : ∃ p : Nat, p < 125 ∧ x = nI p ∧ lg p = true := by
  rcases x_range x with h1 | ⟨p, h1, rfl⟩
  · rw [pj_legal_out h1] at h; cases h
  · exact ⟨p, h1, rfl, by rw [← pj_legal_n p h1]; exact h⟩
theorem lg_nm : ∀ p, p < 125 → lg p = true → 1 ≤ nm p := by decide +kernel
def wp_t : Bool := (List.range 125).all fun a => !lg a || (List.range 25).all fun k => !(decide (a + k < en a) && lg (a + k)) || (List.range 125).all fun b => !(lg b && decide (nm (a + k) + nm b ≤ 3 + nm a)) || (decide (pj_put (nI (a + k)) (nI a) (nI b) = nI (wp (a + k) a b)) && decide (wp (a + k) a b < 125) && lg (wp (a + k) a b))
theorem wp_t_ok : wp_t = true := by decide +kernel
theorem pj_put_n {a b q : Nat} (ha : a < 125) (hb : b < 125) (la : lg a = true) (lb : lg b = true) (h1 : a ≤ q) (h2 : q < en a) (lq : lg q = true) (hn : nm q + nm b ≤ 3 + nm a) : pj_put (nI q) (nI a) (nI b) = nI (wp q a b) ∧ wp q a b < 125 ∧ lg (wp q a b) = true := by
  obtain ⟨k, rfl⟩ : ∃ k, q = a + k := ⟨q - a, by omega⟩
  have he : en a ≤ a + 25 := by unfold en; split <;> (try split) <;> omega
  have h := wp_t_ok
  unfold wp_t at h
  have h := List.all_eq_true.mp h a (List.mem_range.mpr ha)
  rw [la, Bool.not_true, Bool.false_or] at h
  have h := List.all_eq_true.mp h k (List.mem_range.mpr (by omega))
  rw [decide_eq_true h2, lq, Bool.and_true, Bool.not_true, Bool.false_or] at h
  have h := List.all_eq_true.mp h b (List.mem_range.mpr hb)
  rw [lb, decide_eq_true hn, Bool.and_true, Bool.not_true, Bool.false_or] at h
  simp only [Bool.and_eq_true, decide_eq_true_eq] at h
  exact ⟨h.1.1, h.1.2, h.2⟩
section PN
variable {X Y : Int32} {a b : Nat}
theorem pN_leI (hx : X = nI a) (hy : Y = nI b) (ha : a < 2 ^ 31) (hb : b < 2 ^ 31) : X ≤ Y ↔ a ≤ b := by rw [hx, hy]; exact nI_leI ha hb
theorem pN_ltI (hx : X = nI a) (hy : Y = nI b) (ha : a < 2 ^ 31) (hb : b < 2 ^ 31) : X < Y ↔ a < b := by rw [hx, hy]; exact nI_ltI ha hb
theorem pN_eqI (hx : X = nI a) (hy : Y = nI b) (ha : a < 2 ^ 31) (hb : b < 2 ^ 31) : X = Y ↔ a = b := by rw [hx, hy]; exact nI_eq ha hb
theorem pN_le (hx : X = nI a) (hy : Y = nI b) (h : a ≤ b) (ha : a < 2 ^ 31) (hb : b < 2 ^ 31) : X ≤ Y := (pN_leI hx hy ha hb).mpr h
theorem pN_nle (hx : X = nI a) (hy : Y = nI b) (h : b < a) (ha : a < 2 ^ 31) (hb : b < 2 ^ 31) : ¬ X ≤ Y := fun q => absurd ((pN_leI hx hy ha hb).mp q) (by omega)
theorem pN_lt (hx : X = nI a) (hy : Y = nI b) (h : a < b) (ha : a < 2 ^ 31) (hb : b < 2 ^ 31) : X < Y := (pN_ltI hx hy ha hb).mpr h
theorem pN_nlt (hx : X = nI a) (hy : Y = nI b) (h : b ≤ a) (ha : a < 2 ^ 31) (hb : b < 2 ^ 31) : ¬ X < Y := fun q => absurd ((pN_ltI hx hy ha hb).mp q) (by omega)
theorem pN_eq (hx : X = nI a) (hy : Y = nI b) (h : a = b) (ha : a < 2 ^ 31) (hb : b < 2 ^ 31) : X = Y := (pN_eqI hx hy ha hb).mpr h
theorem pN_neq (hx : X = nI a) (hy : Y = nI b) (h : a ≠ b) (ha : a < 2 ^ 31) (hb : b < 2 ^ 31) : ¬ X = Y := fun q => absurd ((pN_eqI hx hy ha hb).mp q) h
end PN
end
section
/-! ===== Tree: what only reads ===== -/
/-- a tree at a, its marks at b -/
def TR (G : x_G) (a b : Nat) (f : Nat → Int64) (H : Heap) : Prop := va_at G.1 x_cl (a, .inr (4, [.ref b])) H ∧ x_al G b 125 f H ∧ a ≠ b
theorem c_TR_at (l : Launch) (G : x_G) (a b : Nat) (f : Nat → Int64) (i : Nat) (hi : i < 125) : Met l y_TR_at (x_ws y_TR_at b_TR_at 2 (some .long)) (x_rm 0 0 0) (x_P G [.ref a, .int (nI i)] (TR G a b f)) (k2_QcV (.long (f i))) 0 0 (fun _ => False) := by
  refine x_mL (by decide +kernel) (Nat.le_of_ble_eq_true rfl) (fun p e s m args below meth c F hK hP ls hl Q hret => ?_)
  have hl : lv_has ls 2 [(0, .ref a), (1, .int (nI i))] := hl
  obtain ⟨hT, hM, hab⟩ := hP
  refine lv_aload_n F.1 F.2.1 d_TR_at_0 rfl (lv_at hl 0 rfl) ?_
  refine x_get F hK hT rfl i_TR 0 (by decide) k80 rfl rfl d_TR_at_1 ?_
  refine lv_iload_n F.1 F.2.1 d_TR_at_4 rfl (lv_at hl 1 rfl) ?_
  refine x_laldN F hK hM (by decide) (by omega) d_TR_at_5 ?_
  exact hret _ _ _ d_TR_at_6 (rfl)
def tEq (f g : Nat → Int64) : Bool := (List.range 125).all fun i => f i == g i
theorem tEq_iff {f g : Nat → Int64} : tEq f g = true ↔ ∀ i, i < 125 → f i = g i := by
  unfold tEq
  rw [List.all_eq_true]
  exact ⟨fun h i hi => eq_of_beq (h i (List.mem_range.mpr hi)), fun h i hi => beq_iff_eq.mpr (h i (List.mem_range.mp hi))⟩
theorem tEq_f {f g : Nat → Int64} {i : Nat} (hi : i < 125) (h : ¬ f i = g i) : tEq f g = false := by
  cases hh : tEq f g with
  | false => rfl
  | true => exact absurd (tEq_iff.mp hh i hi) h
theorem c_TR_sameAs (l : Launch) (G : x_G) (a b a2 b2 : Nat) (f g : Nat → Int64) : Met l y_TR_sameAs (x_ws y_TR_sameAs b_TR_sameAs 3 (some .boolean)) (x_rm 0 0 0) (x_P G [.ref a, .ref a2] (fun H => TR G a b f H ∧ TR G a2 b2 g H)) (k2_QcV (.int (x_b (tEq f g)))) 0 0 (fun _ => False) := by
  refine x_mZ (by decide +kernel) (Nat.le_of_ble_eq_true rfl) (fun p e s m args below meth c F hK hP ls hl Q hret => ?_)
  have hl : lv_has ls 3 [(0, .ref a), (1, .ref a2)] := hl
  obtain ⟨⟨hT, hM, hab⟩, hT2, hM2, hab2⟩ := hP
  have loop : ∀ (n i : Nat), i + n = 125 → (∀ j, j < i → f j = g j) → ∀ ls : Array Slot, lv_has ls 3 [(2, .int (nI i)), (0, .ref a), (1, .ref a2)] → W p l e (x_rm 0 0 0) s m args below meth c s.heap [] 0 0 Q (F0 m 2 ls []) := by
    intro n
    induction n with
    | zero =>
      intro i hn hj ls hl
      refine lv_iload_n F.1 F.2.1 d_TR_sameAs_2 rfl (lv_at hl 0 rfl) ?_
      refine lv_bipush (v := 125) F.1 F.2.1 d_TR_sameAs_3 (by decide) ?_
      refine lv_icmp_ge (tgt := 32) F.1 F.2.1 d_TR_sameAs_5 (by decide) (fun _ => ?_) (fun zq => absurd (pN_le (a := 125) (b := i) rfl rfl (by omega) (by omega) (by omega)) zq)
      refine lv_iconst (v := 1) F.1 F.2.1 d_TR_sameAs_32 (by decide) ?_
      exact hret _ _ _ d_TR_sameAs_33 (by rw [tEq_iff.mpr (fun k hk => hj k (by omega))]; rfl)
    | succ n ih =>
      intro i hn hj ls hl
      refine lv_iload_n F.1 F.2.1 d_TR_sameAs_2 rfl (lv_at hl 0 rfl) ?_
      refine lv_bipush (v := 125) F.1 F.2.1 d_TR_sameAs_3 (by decide) ?_
      refine lv_icmp_ge (tgt := 32) F.1 F.2.1 d_TR_sameAs_5 (by decide) (fun zq => absurd zq (pN_nle (a := 125) (b := i) rfl rfl (by omega) (by omega) (by omega))) (fun _ => ?_)
      refine lv_aload_n F.1 F.2.1 d_TR_sameAs_8 rfl (lv_at hl 1 rfl) ?_
      refine x_get F hK hT rfl i_TR 0 (by decide) k80 rfl rfl d_TR_sameAs_9 ?_
      refine lv_iload_n F.1 F.2.1 d_TR_sameAs_12 rfl (lv_at hl 0 rfl) ?_
      refine x_laldN F hK hM (by decide) (by omega) d_TR_sameAs_13 ?_
      refine lv_aload_n F.1 F.2.1 d_TR_sameAs_14 rfl (lv_at hl 2 rfl) ?_
      refine x_get F hK hT2 rfl i_TR 0 (by decide) k80 rfl rfl d_TR_sameAs_15 ?_
      refine lv_iload_n F.1 F.2.1 d_TR_sameAs_18 rfl (lv_at hl 0 rfl) ?_
      refine x_laldN F hK hM2 (by decide) (by omega) d_TR_sameAs_19 ?_
      refine x_leq (tgt := 26) F d_TR_sameAs_20 d_TR_sameAs_21 (by decide) (fun c20 => ?_) (fun c20 => ?_)
      · refine lv_iinc (v := (nI (i + 1))) (lv' := [(2, .int (nI (i + 1))), (0, .ref a), (1, .ref a2)]) F.1 F.2.1 d_TR_sameAs_26 hl (k := 0) rfl (nI_1 i) (by decide) rfl (fun ls hl => ?_)
        refine lv_goto (tgt := 2) F.1 F.2.1 d_TR_sameAs_29 (by decide) ?_
        exact ih (i + 1) (by omega) (fun j h => by rcases Nat.lt_succ_iff_lt_or_eq.mp h with h | rfl; exact hj j h; exact c20) ls hl
      · refine lv_iconst (v := 0) F.1 F.2.1 d_TR_sameAs_24 (by decide) ?_
        exact hret _ _ _ d_TR_sameAs_25 (by rw [tEq_f (by omega) c20]; rfl)
  refine lv_iconst (v := 0) F.1 F.2.1 d_TR_sameAs_0 (by decide) ?_
  refine lv_istore_n (lv' := [(2, .int 0), (0, .ref a), (1, .ref a2)]) F.1 F.2.1 d_TR_sameAs_1 rfl hl (by decide) rfl (fun ls hl => ?_)
  exact loop 125 0 rfl (fun j h => absurd h (Nat.not_lt_zero j)) ls hl
/-- the least path above i that is not absent, or 125 -/
def nx (f : Nat → Int64) : Nat → Nat → Nat
  | 0, i => i
  | n + 1, i => if f i = wABS then nx f n (i + 1) else i
theorem c_TR_presentAfter (l : Launch) (G : x_G) (a b : Nat) (f : Nat → Int64) (i : Nat) (hi : i < 125) : Met l y_TR_presentAfter (x_ws y_TR_presentAfter b_TR_presentAfter 3 (some .int)) (x_rm 0 0 0) (x_P G [.ref a, .int (nI i)] (TR G a b f)) (k2_QcV (.int (nI (nx f (124 - i) (i + 1))))) 0 0 (fun _ => False) := by
  refine x_mI (by decide +kernel) (Nat.le_of_ble_eq_true rfl) (fun p e s m args below meth c F hK hP ls hl Q hret => ?_)
  have hl : lv_has ls 3 [(0, .ref a), (1, .int (nI i))] := hl
  obtain ⟨hT, hM, hab⟩ := hP
  have loop : ∀ (n k : Nat), k + n = 125 → nx f n k = nx f (124 - i) (i + 1) → ∀ ls : Array Slot, lv_has ls 3 [(2, .int (nI k)), (0, .ref a), (1, .int (nI i))] → W p l e (x_rm 0 0 0) s m args below meth c s.heap [] 0 0 Q (F0 m 4 ls []) := by
    intro n
    induction n with
    | zero =>
      intro k hn hj ls hl
      refine lv_iload_n F.1 F.2.1 d_TR_presentAfter_4 rfl (lv_at hl 0 rfl) ?_
      refine lv_bipush (v := 125) F.1 F.2.1 d_TR_presentAfter_5 (by decide) ?_
      refine lv_icmp_ge (tgt := 29) F.1 F.2.1 d_TR_presentAfter_7 (by decide) (fun _ => ?_) (fun zq => absurd (pN_le (a := 125) (b := k) rfl rfl (by omega) (by omega) (by omega)) zq)
      refine lv_iload_n F.1 F.2.1 d_TR_presentAfter_29 rfl (lv_at hl 0 rfl) ?_
      exact hret _ _ _ d_TR_presentAfter_30 (by rw [← hj]; rfl)
    | succ n ih =>
      intro k hn hj ls hl
      refine lv_iload_n F.1 F.2.1 d_TR_presentAfter_4 rfl (lv_at hl 0 rfl) ?_
      refine lv_bipush (v := 125) F.1 F.2.1 d_TR_presentAfter_5 (by decide) ?_
      refine lv_icmp_ge (tgt := 29) F.1 F.2.1 d_TR_presentAfter_7 (by decide) (fun zq => absurd zq (pN_nle (a := 125) (b := k) rfl rfl (by omega) (by omega) (by omega))) (fun _ => ?_)
      refine lv_aload_n F.1 F.2.1 d_TR_presentAfter_10 rfl (lv_at hl 1 rfl) ?_
      refine x_get F hK hT rfl i_TR 0 (by decide) k80 rfl rfl d_TR_presentAfter_11 ?_
      refine lv_iload_n F.1 F.2.1 d_TR_presentAfter_14 rfl (lv_at hl 0 rfl) ?_
      refine x_laldN F hK hM (by decide) (by omega) d_TR_presentAfter_15 ?_
      refine x_cst F k75 d_TR_presentAfter_16 ?_
      refine x_lne (tgt := 29) F d_TR_presentAfter_19 d_TR_presentAfter_20 (by decide) (fun c19 => ?_) (fun c19 => ?_)
      · refine lv_iload_n F.1 F.2.1 d_TR_presentAfter_29 rfl (lv_at hl 0 rfl) ?_
        exact hret _ _ _ d_TR_presentAfter_30 (by rw [← hj]; show _ = nI (if _ then _ else _); rw [if_neg c19])
      · refine lv_iinc (v := (nI (k + 1))) (lv' := [(2, .int (nI (k + 1))), (0, .ref a), (1, .int (nI i))]) F.1 F.2.1 d_TR_presentAfter_23 hl (k := 0) rfl (nI_1 k) (by decide) rfl (fun ls hl => ?_)
        refine lv_goto (tgt := 4) F.1 F.2.1 d_TR_presentAfter_26 (by decide) ?_
        exact ih (k + 1) (by omega) (by rw [← hj]; show _ = (if _ then _ else _); rw [if_pos c19]) ls hl
  refine lv_iload_n F.1 F.2.1 d_TR_presentAfter_0 rfl (lv_at hl 1 rfl) ?_
  refine lv_iconst (v := 1) F.1 F.2.1 d_TR_presentAfter_1 (by decide) ?_
  refine lv_iadd F.1 F.2.1 d_TR_presentAfter_2 ?_
  rw [nI_1]
  refine lv_istore_n (lv' := [(2, .int (nI (i + 1))), (0, .ref a), (1, .int (nI i))]) F.1 F.2.1 d_TR_presentAfter_3 rfl hl (by decide) rfl (fun ls hl => ?_)
  exact loop (124 - i) (i + 1) (by omega) rfl ls hl
theorem c_TR_isFile (l : Launch) (G : x_G) (a b : Nat) (f : Nat → Int64) (i : Nat) (hi : i < 125) : Met l y_TR_isFile (x_ws y_TR_isFile b_TR_isFile 2 (some .boolean)) (x_rm 0 0 0) (x_P G [.ref a, .int (nI i)] (TR G a b f)) (k2_QcV (.int (x_b (mo_file (f i))))) 0 0 (fun _ => False) := by
  refine x_mZ (by decide +kernel) (Nat.le_of_ble_eq_true rfl) (fun p e s m args below meth c F hK hP ls hl Q hret => ?_)
  have hl : lv_has ls 2 [(0, .ref a), (1, .int (nI i))] := hl
  obtain ⟨hT, hM, hab⟩ := hP
  refine lv_aload_n F.1 F.2.1 d_TR_isFile_0 rfl (lv_at hl 0 rfl) ?_
  refine x_get F hK hT rfl i_TR 0 (by decide) k80 rfl rfl d_TR_isFile_1 ?_
  refine lv_iload_n F.1 F.2.1 d_TR_isFile_4 rfl (lv_at hl 1 rfl) ?_
  refine x_laldN F hK hM (by decide) (by omega) d_TR_isFile_5 ?_
  refine x_cst F k75 d_TR_isFile_6 ?_
  refine x_leq (tgt := 30) F d_TR_isFile_9 d_TR_isFile_10 (by decide) (fun c9 => ?_) (fun c9 => ?_)
  · refine lv_iconst (v := 0) F.1 F.2.1 d_TR_isFile_30 (by decide) ?_
    exact hret _ _ _ d_TR_isFile_31 (by simp [mo_file, x_b, c9])
  · refine lv_aload_n F.1 F.2.1 d_TR_isFile_13 rfl (lv_at hl 0 rfl) ?_
    refine x_get F hK hT rfl i_TR 0 (by decide) k80 rfl rfl d_TR_isFile_14 ?_
    refine lv_iload_n F.1 F.2.1 d_TR_isFile_17 rfl (lv_at hl 1 rfl) ?_
    refine x_laldN F hK hM (by decide) (by omega) d_TR_isFile_18 ?_
    refine x_cst F k79 d_TR_isFile_19 ?_
    refine x_leq (tgt := 30) F d_TR_isFile_22 d_TR_isFile_23 (by decide) (fun c22 => ?_) (fun c22 => ?_)
    · refine lv_iconst (v := 0) F.1 F.2.1 d_TR_isFile_30 (by decide) ?_
      exact hret _ _ _ d_TR_isFile_31 (by simp [mo_file, x_b, c9, c22])
    · refine lv_iconst (v := 1) F.1 F.2.1 d_TR_isFile_26 (by decide) ?_
      refine lv_goto (tgt := 31) F.1 F.2.1 d_TR_isFile_27 (by decide) ?_
      exact hret _ _ _ d_TR_isFile_31 (by simp [mo_file, x_b, c9, c22])
theorem c_TR_liesBelowFile (l : Launch) (G : x_G) (a b : Nat) (f : Nat → Int64) (i : Nat) (hi : i < 125) : Met l y_TR_liesBelowFile (x_ws y_TR_liesBelowFile b_TR_liesBelowFile 3 (some .boolean)) (x_rm 2 0 0) (x_P G [.ref a, .int (nI i)] (TR G a b f)) (k2_QcV (.int (x_b (mo_file (f (pa i)) || mo_file (f (pa (pa i))))))) 0 0 (fun _ => False) := by
  refine x_mZ (by decide +kernel) (Nat.le_of_ble_eq_true rfl) (fun p e s m args below meth c F hK hP ls hl Q hret => ?_)
  have hl : lv_has ls 3 [(0, .ref a), (1, .int (nI i))] := hl
  have hT := hP.1
  have h1 := pa_lt i hi
  have h2 := pa_lt _ h1
  refine lv_iload_n F.1 F.2.1 d_TR_liesBelowFile_0 rfl (lv_at hl 1 rfl) ?_
  refine x_rd (x_S (n := 1) (As := [.int (nI i)]) F (c_PA_parent l G (nI i)) ok_PA_parent k230 ⟨Nat.le_of_ble_eq_true rfl, Nat.le_of_ble_eq_true rfl⟩ rfl rfl hK (trivial) rfl hl.1 rfl (Nat.le_of_ble_eq_true rfl) d_TR_liesBelowFile_1 ⟨Nat.le_of_ble_eq_true rfl, Nat.le_of_ble_eq_true rfl⟩) ?_
  rw [pj_parent_n i hi]
  refine lv_istore_n (lv' := [(2, .int (nI (pa i))), (0, .ref a), (1, .int (nI i))]) F.1 F.2.1 d_TR_liesBelowFile_4 rfl hl (by decide) rfl (fun ls hl => ?_)
  refine lv_aload_n F.1 F.2.1 d_TR_liesBelowFile_5 rfl (lv_at hl 1 rfl) ?_
  refine lv_iload_n F.1 F.2.1 d_TR_liesBelowFile_6 rfl (lv_at hl 0 rfl) ?_
  refine x_rd (x_V (n := 1) (As := [.int (nI (pa i))]) F (c_TR_isFile l G a b f (pa i) h1) ok_TR_isFile k236 ⟨Nat.le_of_ble_eq_true rfl, Nat.le_of_ble_eq_true rfl⟩ rfl rfl hK (x_rcv hK hT rfl) (hP) rfl hl.1 rfl (Nat.le_of_ble_eq_true rfl) d_TR_liesBelowFile_7 ⟨Nat.le_of_ble_eq_true rfl, Nat.le_of_ble_eq_true rfl⟩) ?_
  refine x_bne (tgt := 24) F d_TR_liesBelowFile_10 (by decide) (fun c10 => ?_) (fun c10 => ?_)
  · refine lv_iconst (v := 1) F.1 F.2.1 d_TR_liesBelowFile_24 (by decide) ?_
    refine lv_goto (tgt := 29) F.1 F.2.1 d_TR_liesBelowFile_25 (by decide) ?_
    exact hret _ _ _ d_TR_liesBelowFile_29 (by rw [c10]; rfl)
  · refine lv_aload_n F.1 F.2.1 d_TR_liesBelowFile_13 rfl (lv_at hl 1 rfl) ?_
    refine lv_iload_n F.1 F.2.1 d_TR_liesBelowFile_14 rfl (lv_at hl 0 rfl) ?_
    refine x_rd (x_S (n := 1) (As := [.int (nI (pa i))]) F (c_PA_parent l G (nI (pa i))) ok_PA_parent k230 ⟨Nat.le_of_ble_eq_true rfl, Nat.le_of_ble_eq_true rfl⟩ rfl rfl hK (trivial) rfl hl.1 rfl (Nat.le_of_ble_eq_true rfl) d_TR_liesBelowFile_15 ⟨Nat.le_of_ble_eq_true rfl, Nat.le_of_ble_eq_true rfl⟩) ?_
    rw [pj_parent_n _ h1]
    refine x_rd (x_V (n := 1) (As := [.int (nI (pa (pa i)))]) F (c_TR_isFile l G a b f (pa (pa i)) h2) ok_TR_isFile k236 ⟨Nat.le_of_ble_eq_true rfl, Nat.le_of_ble_eq_true rfl⟩ rfl rfl hK (x_rcv hK hT rfl) (hP) rfl hl.1 rfl (Nat.le_of_ble_eq_true rfl) d_TR_liesBelowFile_18 ⟨Nat.le_of_ble_eq_true rfl, Nat.le_of_ble_eq_true rfl⟩) ?_
    refine x_beq (tgt := 28) F d_TR_liesBelowFile_21 (by decide) (fun c21 => ?_) (fun c21 => ?_)
    · refine lv_iconst (v := 0) F.1 F.2.1 d_TR_liesBelowFile_28 (by decide) ?_
      exact hret _ _ _ d_TR_liesBelowFile_29 (by rw [c10, c21]; rfl)
    · refine lv_iconst (v := 1) F.1 F.2.1 d_TR_liesBelowFile_24 (by decide) ?_
      refine lv_goto (tgt := 29) F.1 F.2.1 d_TR_liesBelowFile_25 (by decide) ?_
      exact hret _ _ _ d_TR_liesBelowFile_29 (by rw [c10, c21]; rfl)
end
section
/-! ===== Tree: what writes the marks ===== -/
/-- outside of A nothing that was there has changed -/
def x_off (A : Nat → Prop) (H H1 : Heap) : Prop := H.size ≤ H1.size ∧ ∀ q : Nat, q < H.size → ¬ A q → H1[q]? = H[q]?
theorem va_S.off {A : Nat → Prop} {H0 H : Heap} {locs : List Loc} (h : va_S A H0 H locs) : x_off A H0 H := ⟨h.1, h.2.1⟩
theorem x_off.rf {A : Nat → Prop} {H : Heap} : x_off A H H := ⟨Nat.le_refl _, fun _ _ _ => rfl⟩
theorem x_off.mono {A B : Nat → Prop} {H H1 : Heap} (h : x_off A H H1) (hAB : ∀ q, A q → B q) : x_off B H H1 := ⟨h.1, fun q h1 h2 => h.2 q h1 (fun z => h2 (hAB q z))⟩
theorem x_off.tr {A : Nat → Prop} {H H1 H2 : Heap} (h : x_off A H H1) (h' : x_off A H1 H2) : x_off A H H2 := ⟨Nat.le_trans h.1 h'.1, fun q h1 h2 => (h'.2 q (Nat.lt_of_lt_of_le h1 h.1) h2).trans (h.2 q h1 h2)⟩
theorem x_keep {D : va_G} {cl : List vw_C} {A : Nat → Prop} {H H1 : Heap} {a : Nat} {e : va_E} (h : va_at D cl (a, e) H) (ho : x_off A H H1) (hn : ¬ A a) : va_at D cl (a, e) H1 := h.kept (ho.2 a h.lt hn)
/-- the marks at b are f' now, nothing else has changed; the answer is v0 -/
def TW (G : x_G) (b : Nat) (f' : Nat → Int64) (v0 : Option Value) : Option Value → Heap → Heap → Prop := fun v H H1 => v = v0 ∧ x_al G b 125 f' H1 ∧ x_off (fun q => q = b) H H1
def tAbove (f : Nat → Int64) (i : Nat) : Nat → Int64 := vp_updL (vp_updL f (pa i) wDIR) (pa (pa i)) wDIR
theorem c_TR_makeAllAbove (l : Launch) (G : x_G) (a b : Nat) (f : Nat → Int64) (i : Nat) (hi : i < 125) : Met l y_TR_makeAllAbove (x_ws y_TR_makeAllAbove b_TR_makeAllAbove 3 none) (x_rm 2 0 0) (x_P G [.ref a, .int (nI i)] (TR G a b f)) (x_Q (TW G b (tAbove f i) none)) 0 0 (fun q => q = b) := by
  refine x_wV (by decide +kernel) (Nat.le_of_ble_eq_true rfl) (fun p e s m args below meth c F hnm hK hP ls hl Q hret => ?_)
  have hl : lv_has ls 3 [(0, .ref a), (1, .int (nI i))] := hl
  obtain ⟨hT, hM, hab⟩ := hP
  have hS : va_S (fun q => q = b) s.heap s.heap [] := va_S.rf
  have h1 := pa_lt i hi
  have h2 := pa_lt _ h1
  refine lv_iload_n F.1 F.2.1 d_TR_makeAllAbove_0 rfl (lv_at hl 1 rfl) ?_
  refine x_rd (x_S (n := 1) (As := [.int (nI i)]) F (c_PA_parent l G (nI i)) ok_PA_parent k230 ⟨Nat.le_of_ble_eq_true rfl, Nat.le_of_ble_eq_true rfl⟩ rfl rfl hK (trivial) rfl hl.1 rfl (Nat.le_of_ble_eq_true rfl) d_TR_makeAllAbove_1 ⟨Nat.le_of_ble_eq_true rfl, Nat.le_of_ble_eq_true rfl⟩) ?_
  rw [pj_parent_n i hi]
  refine lv_istore_n (lv' := [(2, .int (nI (pa i))), (0, .ref a), (1, .int (nI i))]) F.1 F.2.1 d_TR_makeAllAbove_4 rfl hl (by decide) rfl (fun ls hl => ?_)
  refine lv_aload_n F.1 F.2.1 d_TR_makeAllAbove_5 rfl (lv_at hl 1 rfl) ?_
  refine x_get F hK hT rfl i_TR 0 (by decide) k80 rfl rfl d_TR_makeAllAbove_6 ?_
  refine lv_iload_n F.1 F.2.1 d_TR_makeAllAbove_9 rfl (lv_at hl 0 rfl) ?_
  refine x_cst F k79 d_TR_makeAllAbove_10 ?_
  refine x_lastN F hK hM (by decide) (by omega) hS rfl d_TR_makeAllAbove_13 (fun H1 locs hM hz1 ho1 hS => ?_)
  have hT := va_at.kept hT (ho1 _ hab)
  refine lv_aload_n F.1 F.2.1 d_TR_makeAllAbove_14 rfl (lv_at hl 1 rfl) ?_
  refine x_get F hK hT rfl i_TR 0 (by decide) k80 rfl rfl d_TR_makeAllAbove_15 ?_
  refine lv_iload_n F.1 F.2.1 d_TR_makeAllAbove_18 rfl (lv_at hl 0 rfl) ?_
  refine x_rd (x_S (n := 1) (As := [.int (nI (pa i))]) F (c_PA_parent l G (nI (pa i))) ok_PA_parent k230 ⟨Nat.le_of_ble_eq_true rfl, Nat.le_of_ble_eq_true rfl⟩ rfl rfl hK (trivial) rfl hl.1 rfl (Nat.le_of_ble_eq_true rfl) d_TR_makeAllAbove_19 ⟨Nat.le_of_ble_eq_true rfl, Nat.le_of_ble_eq_true rfl⟩) ?_
  rw [pj_parent_n _ h1]
  refine x_cst F k79 d_TR_makeAllAbove_22 ?_
  refine x_lastN F hK hM (by decide) (by omega) hS rfl d_TR_makeAllAbove_25 (fun H2 locs hM hz2 ho2 hS => ?_)
  have hT := va_at.kept hT (ho2 _ hab)
  exact hret _ _ _ _ _ _ d_TR_makeAllAbove_26 ⟨rfl, hM, hS.off⟩ hS.2.2 (Nat.le_refl _) (Nat.le_refl _)
/-- WRITE: none if refused -/
def tWrite (f : Nat → Int64) (i : Nat) (v : Int64) : Option (Nat → Int64) := if f i = wDIR ∨ (mo_file (f (pa i)) || mo_file (f (pa (pa i)))) = true then none else some (vp_updL (tAbove f i) i v)
/-- the marks behind a step that may be refused -/
def TO (G : x_G) (b : Nat) (f : Nat → Int64) (o : Option (Nat → Int64)) : Option Value → Heap → Heap → Prop := fun v H H1 => v = some (.int (x_b o.isSome)) ∧ x_al G b 125 (o.getD f) H1 ∧ x_off (fun q => q = b) H H1
theorem c_TR_writeFile (l : Launch) (G : x_G) (a b : Nat) (f : Nat → Int64) (i : Nat) (v : Int32) (hi : i < 125) : Met l y_TR_writeFile (x_ws y_TR_writeFile b_TR_writeFile 3 (some .boolean)) (x_rm 3 0 0) (x_P G [.ref a, .int (nI i), .int v] (TR G a b f)) (x_Q (TO G b f (tWrite f i v.toInt64))) 0 0 (fun q => q = b) := by
  refine x_wZ (by decide +kernel) (Nat.le_of_ble_eq_true rfl) (fun p e s m args below meth c F hK hP ls hl Q hret => ?_)
  have hl : lv_has ls 3 [(0, .ref a), (1, .int (nI i)), (2, .int v)] := hl
  obtain ⟨hT, hM, hab⟩ := id hP
  have hS : va_S (fun q => q = b) s.heap s.heap [] := va_S.rf
  refine lv_aload_n F.1 F.2.1 d_TR_writeFile_0 rfl (lv_at hl 0 rfl) ?_
  refine x_get F hK hT rfl i_TR 0 (by decide) k80 rfl rfl d_TR_writeFile_1 ?_
  refine lv_iload_n F.1 F.2.1 d_TR_writeFile_4 rfl (lv_at hl 1 rfl) ?_
  refine x_laldN F hK hM (by decide) (by omega) d_TR_writeFile_5 ?_
  refine x_cst F k79 d_TR_writeFile_6 ?_
  refine x_leq (tgt := 21) F d_TR_writeFile_9 d_TR_writeFile_10 (by decide) (fun c9 => ?_) (fun c9 => ?_)
  · refine lv_iconst (v := 0) F.1 F.2.1 d_TR_writeFile_21 (by decide) ?_
    exact hret _ _ _ false _ _ _ _ d_TR_writeFile_22 rfl (by unfold tWrite; rw [if_pos (Or.inl c9)]; exact ⟨rfl, hM, hS.off⟩) hS.2.2 (Nat.le_refl _) (Nat.le_refl _)
  · refine lv_aload_n F.1 F.2.1 d_TR_writeFile_13 rfl (lv_at hl 0 rfl) ?_
    refine lv_iload_n F.1 F.2.1 d_TR_writeFile_14 rfl (lv_at hl 1 rfl) ?_
    refine x_rd (x_V (n := 1) (As := [.int (nI i)]) F (c_TR_liesBelowFile l G a b f i hi) ok_TR_liesBelowFile k226 ⟨Nat.le_of_ble_eq_true rfl, Nat.le_of_ble_eq_true rfl⟩ rfl rfl hK (x_rcv hK hT rfl) (hP) rfl hl.1 rfl (Nat.le_of_ble_eq_true rfl) d_TR_writeFile_15 ⟨Nat.le_of_ble_eq_true rfl, Nat.le_of_ble_eq_true rfl⟩) ?_
    refine x_beq (tgt := 23) F d_TR_writeFile_18 (by decide) (fun c18 => ?_) (fun c18 => ?_)
    · refine lv_aload_n F.1 F.2.1 d_TR_writeFile_23 rfl (lv_at hl 0 rfl) ?_
      refine lv_iload_n F.1 F.2.1 d_TR_writeFile_24 rfl (lv_at hl 1 rfl) ?_
      refine x_wr (x_V (n := 1) (As := [.int (nI i)]) F (c_TR_makeAllAbove l G a b f i hi) ok_TR_makeAllAbove k240 ⟨Nat.le_of_ble_eq_true rfl, Nat.le_of_ble_eq_true rfl⟩ rfl rfl hK (x_rcv hK hT rfl) (hP) rfl hl.1 rfl (Nat.le_of_ble_eq_true rfl) d_TR_writeFile_25 ⟨Nat.le_of_ble_eq_true rfl, Nat.le_of_ble_eq_true rfl⟩) hS (fun _ h => h) (fun _ _ h => h.2.2) (fun v H3 locs hpost hS => ?_)
      obtain ⟨rfl, hM, ho⟩ := hpost
      have hT := x_keep hT ho hab
      refine lv_aload_n F.1 F.2.1 d_TR_writeFile_28 rfl (lv_at hl 0 rfl) ?_
      refine x_get F hK hT rfl i_TR 0 (by decide) k80 rfl rfl d_TR_writeFile_29 ?_
      refine lv_iload_n F.1 F.2.1 d_TR_writeFile_32 rfl (lv_at hl 1 rfl) ?_
      refine lv_iload_n F.1 F.2.1 d_TR_writeFile_33 rfl (lv_at hl 2 rfl) ?_
      refine lv_i2l (v := v.toInt64) F.1 F.2.1 d_TR_writeFile_34 rfl ?_
      refine x_lastN F hK hM (by decide) (by omega) hS rfl d_TR_writeFile_35 (fun H4 locs hM hz4 ho4 hS => ?_)
      have hT := va_at.kept hT (ho4 _ hab)
      refine lv_iconst (v := 1) F.1 F.2.1 d_TR_writeFile_36 (by decide) ?_
      exact hret _ _ _ true _ _ _ _ d_TR_writeFile_37 rfl (by unfold tWrite; rw [if_neg (by rintro (h | h); exact c9 h; rw [c18] at h; cases h)]; exact ⟨rfl, hM, hS.off⟩) hS.2.2 (Nat.le_refl _) (Nat.le_refl _)
    · refine lv_iconst (v := 0) F.1 F.2.1 d_TR_writeFile_21 (by decide) ?_
      exact hret _ _ _ false _ _ _ _ d_TR_writeFile_22 rfl (by unfold tWrite; rw [if_pos (Or.inr c18)]; exact ⟨rfl, hM, hS.off⟩) hS.2.2 (Nat.le_refl _) (Nat.le_refl _)
def tMake (f : Nat → Int64) (i : Nat) : Option (Nat → Int64) := if mo_file (f i) = true ∨ (mo_file (f (pa i)) || mo_file (f (pa (pa i)))) = true then none else some (vp_updL (tAbove f i) i wDIR)
theorem c_TR_makeDirectory (l : Launch) (G : x_G) (a b : Nat) (f : Nat → Int64) (i : Nat) (hi : i < 125) : Met l y_TR_makeDirectory (x_ws y_TR_makeDirectory b_TR_makeDirectory 2 (some .boolean)) (x_rm 3 0 0) (x_P G [.ref a, .int (nI i)] (TR G a b f)) (x_Q (TO G b f (tMake f i))) 0 0 (fun q => q = b) := by
  refine x_wZ (by decide +kernel) (Nat.le_of_ble_eq_true rfl) (fun p e s m args below meth c F hK hP ls hl Q hret => ?_)
  have hl : lv_has ls 2 [(0, .ref a), (1, .int (nI i))] := hl
  obtain ⟨hT, hM, hab⟩ := id hP
  have hS : va_S (fun q => q = b) s.heap s.heap [] := va_S.rf
  refine lv_aload_n F.1 F.2.1 d_TR_makeDirectory_0 rfl (lv_at hl 0 rfl) ?_
  refine lv_iload_n F.1 F.2.1 d_TR_makeDirectory_1 rfl (lv_at hl 1 rfl) ?_
  refine x_rd (x_V (n := 1) (As := [.int (nI i)]) F (c_TR_isFile l G a b f i hi) ok_TR_isFile k236 ⟨Nat.le_of_ble_eq_true rfl, Nat.le_of_ble_eq_true rfl⟩ rfl rfl hK (x_rcv hK hT rfl) (hP) rfl hl.1 rfl (Nat.le_of_ble_eq_true rfl) d_TR_makeDirectory_2 ⟨Nat.le_of_ble_eq_true rfl, Nat.le_of_ble_eq_true rfl⟩) ?_
  refine x_bne (tgt := 16) F d_TR_makeDirectory_5 (by decide) (fun c9 => ?_) (fun c9 => ?_)
  · refine lv_iconst (v := 0) F.1 F.2.1 d_TR_makeDirectory_16 (by decide) ?_
    exact hret _ _ _ false _ _ _ _ d_TR_makeDirectory_17 rfl (by unfold tMake; rw [if_pos (Or.inl c9)]; exact ⟨rfl, hM, hS.off⟩) hS.2.2 (Nat.le_refl _) (Nat.le_refl _)
  · refine lv_aload_n F.1 F.2.1 d_TR_makeDirectory_8 rfl (lv_at hl 0 rfl) ?_
    refine lv_iload_n F.1 F.2.1 d_TR_makeDirectory_9 rfl (lv_at hl 1 rfl) ?_
    refine x_rd (x_V (n := 1) (As := [.int (nI i)]) F (c_TR_liesBelowFile l G a b f i hi) ok_TR_liesBelowFile k226 ⟨Nat.le_of_ble_eq_true rfl, Nat.le_of_ble_eq_true rfl⟩ rfl rfl hK (x_rcv hK hT rfl) (hP) rfl hl.1 rfl (Nat.le_of_ble_eq_true rfl) d_TR_makeDirectory_10 ⟨Nat.le_of_ble_eq_true rfl, Nat.le_of_ble_eq_true rfl⟩) ?_
    refine x_beq (tgt := 18) F d_TR_makeDirectory_13 (by decide) (fun c18 => ?_) (fun c18 => ?_)
    · refine lv_aload_n F.1 F.2.1 d_TR_makeDirectory_18 rfl (lv_at hl 0 rfl) ?_
      refine lv_iload_n F.1 F.2.1 d_TR_makeDirectory_19 rfl (lv_at hl 1 rfl) ?_
      refine x_wr (x_V (n := 1) (As := [.int (nI i)]) F (c_TR_makeAllAbove l G a b f i hi) ok_TR_makeAllAbove k240 ⟨Nat.le_of_ble_eq_true rfl, Nat.le_of_ble_eq_true rfl⟩ rfl rfl hK (x_rcv hK hT rfl) (hP) rfl hl.1 rfl (Nat.le_of_ble_eq_true rfl) d_TR_makeDirectory_20 ⟨Nat.le_of_ble_eq_true rfl, Nat.le_of_ble_eq_true rfl⟩) hS (fun _ h => h) (fun _ _ h => h.2.2) (fun v H5 locs hpost hS => ?_)
      obtain ⟨rfl, hM, ho⟩ := hpost
      have hT := x_keep hT ho hab
      refine lv_aload_n F.1 F.2.1 d_TR_makeDirectory_23 rfl (lv_at hl 0 rfl) ?_
      refine x_get F hK hT rfl i_TR 0 (by decide) k80 rfl rfl d_TR_makeDirectory_24 ?_
      refine lv_iload_n F.1 F.2.1 d_TR_makeDirectory_27 rfl (lv_at hl 1 rfl) ?_
      refine x_cst F k79 d_TR_makeDirectory_28 ?_
      refine x_lastN F hK hM (by decide) (by omega) hS rfl d_TR_makeDirectory_31 (fun H6 locs hM hz6 ho6 hS => ?_)
      have hT := va_at.kept hT (ho6 _ hab)
      refine lv_iconst (v := 1) F.1 F.2.1 d_TR_makeDirectory_32 (by decide) ?_
      exact hret _ _ _ true _ _ _ _ d_TR_makeDirectory_33 rfl (by unfold tMake; rw [if_neg (by rintro (h | h); rw [c9] at h; cases h; rw [c18] at h; cases h)]; exact ⟨rfl, hM, hS.off⟩) hS.2.2 (Nat.le_refl _) (Nat.le_refl _)
    · refine lv_iconst (v := 0) F.1 F.2.1 d_TR_makeDirectory_16 (by decide) ?_
      exact hret _ _ _ false _ _ _ _ d_TR_makeDirectory_17 rfl (by unfold tMake; rw [if_pos (Or.inr c18)]; exact ⟨rfl, hM, hS.off⟩) hS.2.2 (Nat.le_refl _) (Nat.le_refl _)
/-- all from i on, n of them, become absent -/
def tWipe (f : Nat → Int64) (i n : Nat) : Nat → Int64 := fun q => if i ≤ q ∧ q < n then wABS else f q
def tRemove (f : Nat → Int64) (i : Nat) : Option (Nat → Int64) := if f i = wABS then none else some (tWipe f i (en i))
theorem tWipe_0 (f : Nat → Int64) (i : Nat) : tWipe f i i = f := funext fun q => if_neg (by omega)
theorem tWipe_s (f : Nat → Int64) {i k : Nat} (h : i ≤ k) : vp_updL (tWipe f i k) k wABS = tWipe f i (k + 1) := funext fun q => by
  unfold vp_updL tWipe
  by_cases h1 : q = k
  · rw [if_pos h1, if_pos (by omega)]
  · rw [if_neg h1]
    by_cases h2 : i ≤ q ∧ q < k
    · rw [if_pos h2, if_pos (by omega)]
    · rw [if_neg h2, if_neg (by omega)]
theorem c_TR_removeAll (l : Launch) (G : x_G) (a b : Nat) (f : Nat → Int64) (i : Nat) (hi : i < 125) (hg : lg i = true) : Met l y_TR_removeAll (x_ws y_TR_removeAll b_TR_removeAll 4 (some .boolean)) (x_rm 2 0 0) (x_P G [.ref a, .int (nI i)] (TR G a b f)) (x_Q (TO G b f (tRemove f i))) 0 0 (fun q => q = b) := by
  refine x_wZ (by decide +kernel) (Nat.le_of_ble_eq_true rfl) (fun p e s m args below meth c F hK hP ls hl Q hret => ?_)
  have hl : lv_has ls 4 [(0, .ref a), (1, .int (nI i))] := hl
  obtain ⟨hT, hM, hab⟩ := id hP
  have hS : va_S (fun q => q = b) s.heap s.heap [] := va_S.rf
  obtain ⟨he1, he2⟩ := en_le i hi hg
  have hT0 := hT
  have loop : f i ≠ wABS → ∀ (n k : Nat), k + n = en i → i ≤ k → ∀ (H : Heap) (locs : List Loc), x_al G b 125 (tWipe f i k) H → va_S (fun q => q = b) s.heap H locs → ∀ ls : Array Slot, lv_has ls 4 [(3, .int (nI k)), (2, .int (nI (en i))), (0, .ref a), (1, .int (nI i))] → W p l e (x_rm 2 0 0) s m args below meth c H locs 0 0 Q (F0 m 22 ls []) := by
    intro hne n
    induction n with
    | zero =>
      intro k hn hik H locs hM hS ls hl
      refine lv_iload_n F.1 F.2.1 d_TR_removeAll_22 rfl (lv_at hl 0 rfl) ?_
      refine lv_iload_n F.1 F.2.1 d_TR_removeAll_23 rfl (lv_at hl 1 rfl) ?_
      refine lv_icmp_ge (tgt := 42) F.1 F.2.1 d_TR_removeAll_24 (by decide) (fun _ => ?_) (fun zq => absurd (pN_le (a := (en i)) (b := k) rfl rfl (by omega) (by omega) (by omega)) zq)
      refine lv_iconst (v := 1) F.1 F.2.1 d_TR_removeAll_42 (by decide) ?_
      obtain rfl : k = en i := by omega
      exact hret _ _ _ true _ _ _ _ d_TR_removeAll_43 rfl (by unfold tRemove; rw [if_neg hne]; exact ⟨rfl, hM, hS.off⟩) hS.2.2 (Nat.le_refl _) (Nat.le_refl _)
    | succ n ih =>
      intro k hn hik H locs hM hS ls hl
      have hT := x_keep hT0 hS.off hab
      refine lv_iload_n F.1 F.2.1 d_TR_removeAll_22 rfl (lv_at hl 0 rfl) ?_
      refine lv_iload_n F.1 F.2.1 d_TR_removeAll_23 rfl (lv_at hl 1 rfl) ?_
      refine lv_icmp_ge (tgt := 42) F.1 F.2.1 d_TR_removeAll_24 (by decide) (fun zq => absurd zq (pN_nle (a := (en i)) (b := k) rfl rfl (by omega) (by omega) (by omega))) (fun _ => ?_)
      refine lv_aload_n F.1 F.2.1 d_TR_removeAll_27 rfl (lv_at hl 2 rfl) ?_
      refine x_get F hK hT rfl i_TR 0 (by decide) k80 rfl rfl d_TR_removeAll_28 ?_
      refine lv_iload_n F.1 F.2.1 d_TR_removeAll_31 rfl (lv_at hl 0 rfl) ?_
      refine x_cst F k75 d_TR_removeAll_32 ?_
      refine x_lastN F hK hM (by decide) (by omega) hS rfl d_TR_removeAll_35 (fun H7 locs hM hz7 ho7 hS => ?_)
      have hT := va_at.kept hT (ho7 _ hab)
      refine lv_iinc (v := (nI (k + 1))) (lv' := [(3, .int (nI (k + 1))), (2, .int (nI (en i))), (0, .ref a), (1, .int (nI i))]) F.1 F.2.1 d_TR_removeAll_36 hl (k := 0) rfl (nI_1 k) (by decide) rfl (fun ls hl => ?_)
      refine lv_goto (tgt := 22) F.1 F.2.1 d_TR_removeAll_39 (by decide) ?_
      exact ih (k + 1) (by omega) (by omega) _ _ (by rw [← tWipe_s f hik]; exact hM) hS ls hl
  refine lv_aload_n F.1 F.2.1 d_TR_removeAll_0 rfl (lv_at hl 0 rfl) ?_
  refine x_get F hK hT rfl i_TR 0 (by decide) k80 rfl rfl d_TR_removeAll_1 ?_
  refine lv_iload_n F.1 F.2.1 d_TR_removeAll_4 rfl (lv_at hl 1 rfl) ?_
  refine x_laldN F hK hM (by decide) (by omega) d_TR_removeAll_5 ?_
  refine x_cst F k75 d_TR_removeAll_6 ?_
  refine x_lne (tgt := 15) F d_TR_removeAll_9 d_TR_removeAll_10 (by decide) (fun c9 => ?_) (fun c9 => ?_)
  · refine lv_iload_n F.1 F.2.1 d_TR_removeAll_15 rfl (lv_at hl 1 rfl) ?_
    refine x_rd (x_S (n := 1) (As := [.int (nI i)]) F (c_PA_end l G (nI i)) ok_PA_end k252 ⟨Nat.le_of_ble_eq_true rfl, Nat.le_of_ble_eq_true rfl⟩ rfl rfl hK (trivial) rfl hl.1 rfl (Nat.le_of_ble_eq_true rfl) d_TR_removeAll_16 ⟨Nat.le_of_ble_eq_true rfl, Nat.le_of_ble_eq_true rfl⟩) ?_
    rw [pj_end_n i hi]
    refine lv_istore_n (lv' := [(2, .int (nI (en i))), (0, .ref a), (1, .int (nI i))]) F.1 F.2.1 d_TR_removeAll_19 rfl hl (by decide) rfl (fun ls hl => ?_)
    refine lv_iload_n F.1 F.2.1 d_TR_removeAll_20 rfl (lv_at hl 2 rfl) ?_
    refine lv_istore_n (lv' := [(3, .int (nI i)), (2, .int (nI (en i))), (0, .ref a), (1, .int (nI i))]) F.1 F.2.1 d_TR_removeAll_21 rfl hl (by decide) rfl (fun ls hl => ?_)
    exact loop c9 (en i - i) i (by omega) (Nat.le_refl _) _ _ (by rw [tWipe_0]; exact hM) hS ls hl
  · refine lv_iconst (v := 0) F.1 F.2.1 d_TR_removeAll_13 (by decide) ?_
    exact hret _ _ _ false _ _ _ _ d_TR_removeAll_14 rfl (by unfold tRemove; rw [if_pos c9]; exact ⟨rfl, hM, hS.off⟩) hS.2.2 (Nat.le_refl _) (Nat.le_refl _)
end
section
/-! ===== Tree: copying ===== -/
/-- only legal paths are there; what is above is a directory; the root is one -/
def tOk (f : Nat → Int64) : Prop := f 0 = wDIR ∧ ∀ i, 0 < i → i < 125 → f i ≠ wABS → lg i = true ∧ f (pa i) = wDIR
/-- where q came from when a was put at b -/
def uw (q a b : Nat) : Nat := a + (if nm a = nm b then q - b else if nm b = nm a + 1 then (q - b) * 5 else if nm b = nm a + 2 then (q - b) * 5 * 5 else if nm a = nm b + 1 then (q - b) / 5 else (q - b) / 5 / 5)
def wp_u : Bool := (List.range 125).all fun a => !lg a || (List.range 25).all fun k => !(decide (a + k < en a) && lg (a + k)) || (List.range 125).all fun b => !(lg b && decide (nm (a + k) + nm b ≤ 3 + nm a)) || (decide (b ≤ wp (a + k) a b) && decide (wp (a + k) a b < en b) && decide (uw (wp (a + k) a b) a b = a + k))
theorem wp_u_ok : wp_u = true := by decide +kernel
theorem wp_back {a b q : Nat} (ha : a < 125) (hb : b < 125) (la : lg a = true) (lb : lg b = true) (h1 : a ≤ q) (h2 : q < en a) (lq : lg q = true) (hn : nm q + nm b ≤ 3 + nm a) : b ≤ wp q a b ∧ wp q a b < en b ∧ uw (wp q a b) a b = q := by
  obtain ⟨k, rfl⟩ : ∃ k, q = a + k := ⟨q - a, by omega⟩
  have he : en a ≤ a + 25 := by unfold en; split <;> (try split) <;> omega
  have h := wp_u_ok
  unfold wp_u at h
  have h := List.all_eq_true.mp h a (List.mem_range.mpr ha)
  rw [la, Bool.not_true, Bool.false_or] at h
  have h := List.all_eq_true.mp h k (List.mem_range.mpr (by omega))
  rw [decide_eq_true h2, lq, Bool.and_true, Bool.not_true, Bool.false_or] at h
  have h := List.all_eq_true.mp h b (List.mem_range.mpr hb)
  rw [lb, decide_eq_true hn, Bool.and_true, Bool.not_true, Bool.false_or] at h
  simp only [Bool.and_eq_true, decide_eq_true_eq] at h
  exact ⟨h.1.1, h.1.2, h.2⟩
theorem nm_up : ∀ a, a < 125 → lg a = true → ∀ q, q < 125 → (decide (a ≤ q) && decide (q < en a) && lg q) = true → nm a ≤ nm q := by decide +kernel
theorem rg_apart : ∀ a, a < 125 → lg a = true → ∀ b, b < 125 → (lg b && !(decide (a ≤ b) && decide (b < en a)) && !(decide (b ≤ a) && decide (a < en b))) = true → en a ≤ b ∨ en b ≤ a := by decide +kernel
theorem rg_up : ∀ a, a < 125 → lg a = true → ∀ b, b < 125 → (lg b && decide (b < a) && decide (a < en b)) = true → b = pa a ∨ (b = pa (pa a) ∧ 0 < pa a) := by decide +kernel
theorem tOk.up {f : Nat → Int64} (h : tOk f) {a b : Nat} (ha : a < 125) (hb : b < 125) (la : lg a = true) (lb : lg b = true) (h1 : b < a) (h2 : a < en b) (hf : f a ≠ wABS) : f b = wDIR := by
  have a0 : 0 < a := by omega
  have k1 := (h.2 a a0 ha hf).2
  rcases rg_up a ha la b hb (by rw [lb, decide_eq_true h1, decide_eq_true h2]; rfl) with rfl | ⟨rfl, h3⟩
  · exact k1
  · exact (h.2 (pa a) h3 (pa_lt a ha) (by rw [k1]; decide)).2
def fitB (f : Nat → Int64) (a b : Nat) : Bool := (List.range 125).all fun i => !(decide (a ≤ i ∧ i < en a) && !decide (f i = wABS)) || decide (nm i + nm b ≤ 3 + nm a)
theorem fitB_iff {f : Nat → Int64} {a b : Nat} (he : en a ≤ 125) : fitB f a b = true ↔ ∀ i, a ≤ i → i < en a → f i ≠ wABS → nm i + nm b ≤ 3 + nm a := by
  unfold fitB
  rw [List.all_eq_true]
  constructor
  · intro h i h1 h2 h3
    have k := h i (List.mem_range.mpr (by omega))
    rw [decide_eq_true ⟨h1, h2⟩, decide_eq_false h3, Bool.not_false, Bool.and_true, Bool.not_true, Bool.false_or] at k
    exact of_decide_eq_true k
  · intro h i hi
    by_cases h1 : a ≤ i ∧ i < en a
    · by_cases h2 : f i = wABS
      · rw [decide_eq_true h2, Bool.not_true, Bool.and_false]; rfl
      · rw [decide_eq_true (h i h1.1 h1.2 h2), Bool.or_true]
    · rw [decide_eq_false h1]; rfl
theorem fitB_f {f : Nat → Int64} {a b i : Nat} (he : en a ≤ 125) (h1 : a ≤ i) (h2 : i < en a) (h3 : f i ≠ wABS) (h : ¬ nm i + nm b ≤ 3 + nm a) : fitB f a b = false := by
  cases hh : fitB f a b with
  | false => rfl
  | true => exact absurd ((fitB_iff he).mp hh i h1 h2 h3) h
theorem c_TR_fitsAt (l : Launch) (G : x_G) (a b : Nat) (f : Nat → Int64) (i j : Nat) (hi : i < 125) (hj : j < 125) (li : lg i = true) (hf : tOk f) : Met l y_TR_fitsAt (x_ws y_TR_fitsAt b_TR_fitsAt 5 (some .boolean)) (x_rm 2 0 0) (x_P G [.ref a, .int (nI i), .int (nI j)] (TR G a b f)) (k2_QcV (.int (x_b (fitB f i j)))) 0 0 (fun _ => False) := by
  refine x_mZ (by decide +kernel) (Nat.le_of_ble_eq_true rfl) (fun p e s m args below meth c F hK hP ls hl Q hret => ?_)
  have hl : lv_has ls 5 [(0, .ref a), (1, .int (nI i)), (2, .int (nI j))] := hl
  obtain ⟨hT, hM, hab⟩ := hP
  obtain ⟨he1, he2⟩ := en_le i hi li
  have loop : ∀ (n k : Nat), k + n = en i → i ≤ k → (∀ q, i ≤ q → q < k → f q ≠ wABS → nm q + nm j ≤ 3 + nm i) → ∀ ls : Array Slot, lv_has ls 5 [(4, .int (nI k)), (3, .int (nI (en i))), (0, .ref a), (1, .int (nI i)), (2, .int (nI j))] → W p l e (x_rm 2 0 0) s m args below meth c s.heap [] 0 0 Q (F0 m 8 ls []) := by
    intro n
    induction n with
    | zero =>
      intro k hn hik hq ls hl
      refine lv_iload F.1 F.2.1 d_TR_fitsAt_8 (lv_at hl 0 rfl) ?_
      refine lv_iload_n F.1 F.2.1 d_TR_fitsAt_10 rfl (lv_at hl 1 rfl) ?_
      refine lv_icmp_ge (tgt := 47) F.1 F.2.1 d_TR_fitsAt_11 (by decide) (fun _ => ?_) (fun zq => absurd (pN_le (a := (en i)) (b := k) rfl rfl (by omega) (by omega) (by omega)) zq)
      refine lv_iconst (v := 1) F.1 F.2.1 d_TR_fitsAt_47 (by decide) ?_
      exact hret _ _ _ d_TR_fitsAt_48 (by rw [(fitB_iff he2).mpr (fun q h1 h2 h3 => hq q h1 (by omega) h3)]; rfl)
    | succ n ih =>
      intro k hn hik hq ls hl
      refine lv_iload F.1 F.2.1 d_TR_fitsAt_8 (lv_at hl 0 rfl) ?_
      refine lv_iload_n F.1 F.2.1 d_TR_fitsAt_10 rfl (lv_at hl 1 rfl) ?_
      refine lv_icmp_ge (tgt := 47) F.1 F.2.1 d_TR_fitsAt_11 (by decide) (fun zq => absurd zq (pN_nle (a := (en i)) (b := k) rfl rfl (by omega) (by omega) (by omega))) (fun _ => ?_)
      refine lv_aload_n F.1 F.2.1 d_TR_fitsAt_14 rfl (lv_at hl 2 rfl) ?_
      refine x_get F hK hT rfl i_TR 0 (by decide) k80 rfl rfl d_TR_fitsAt_15 ?_
      refine lv_iload F.1 F.2.1 d_TR_fitsAt_18 (lv_at hl 0 rfl) ?_
      refine x_laldN F hK hM (by decide) (by omega) d_TR_fitsAt_20 ?_
      refine x_cst F k75 d_TR_fitsAt_21 ?_
      refine x_leq (tgt := 41) F d_TR_fitsAt_24 d_TR_fitsAt_25 (by decide) (fun c24 => ?_) (fun c24 => ?_)
      · refine lv_iinc (v := (nI (k + 1))) (lv' := [(4, .int (nI (k + 1))), (3, .int (nI (en i))), (0, .ref a), (1, .int (nI i)), (2, .int (nI j))]) F.1 F.2.1 d_TR_fitsAt_41 hl (k := 0) rfl (nI_1 k) (by decide) rfl (fun ls hl => ?_)
        refine lv_goto (tgt := 8) F.1 F.2.1 d_TR_fitsAt_44 (by decide) ?_
        exact ih (k + 1) (by omega) (by omega) (fun q h1 h2 h3 => by rcases Nat.lt_succ_iff_lt_or_eq.mp h2 with h | rfl; exact hq q h1 h h3; exact absurd c24 h3) ls hl
      · have lk := (hf.2 k (by have := lg_nm i hi li; have : 25 ≤ i := by (have h := li; unfold lg at h; simp at h; omega)
                               omega) (by omega) c24).1
        refine lv_iload F.1 F.2.1 d_TR_fitsAt_28 (lv_at hl 0 rfl) ?_
        refine lv_iload_n F.1 F.2.1 d_TR_fitsAt_30 rfl (lv_at hl 3 rfl) ?_
        refine lv_iload_n F.1 F.2.1 d_TR_fitsAt_31 rfl (lv_at hl 4 rfl) ?_
        refine x_rd (x_S (n := 3) (As := [.int (nI k), .int (nI i), .int (nI j)]) F (c_PA_namesWhenPut l G (nI k) (nI i) (nI j)) ok_PA_namesWhenPut k267 ⟨Nat.le_of_ble_eq_true rfl, Nat.le_of_ble_eq_true rfl⟩ rfl rfl hK (trivial) rfl hl.1 rfl (Nat.le_of_ble_eq_true rfl) d_TR_fitsAt_32 ⟨Nat.le_of_ble_eq_true rfl, Nat.le_of_ble_eq_true rfl⟩) ?_
        have hu := nm_up i hi li k (by omega) (by rw [decide_eq_true hik, decide_eq_true (show k < en i by omega), lk]; rfl)
        have hk4 := nm_lt k
        have hj4 := nm_lt j
        rw [pj_names_n k (by omega), pj_names_n i hi, pj_names_n j hj, pk_sub hu, nI_add]
        refine lv_iconst (v := 3) F.1 F.2.1 d_TR_fitsAt_35 (by decide) ?_
        refine lv_icmp_le (tgt := 41) F.1 F.2.1 d_TR_fitsAt_36 (by decide) (fun c36 => ?_) (fun c36 => ?_)
        · have c36 := (pN_leI (a := (nm k - nm i + nm j)) (b := 3) rfl rfl (by omega) (by omega)).mp c36
          refine lv_iinc (v := (nI (k + 1))) (lv' := [(4, .int (nI (k + 1))), (3, .int (nI (en i))), (0, .ref a), (1, .int (nI i)), (2, .int (nI j))]) F.1 F.2.1 d_TR_fitsAt_41 hl (k := 0) rfl (nI_1 k) (by decide) rfl (fun ls hl => ?_)
          refine lv_goto (tgt := 8) F.1 F.2.1 d_TR_fitsAt_44 (by decide) ?_
          exact ih (k + 1) (by omega) (by omega) (fun q h1 h2 h3 => by rcases Nat.lt_succ_iff_lt_or_eq.mp h2 with h | rfl; exact hq q h1 h h3; omega) ls hl
        · have c36 := mt (pN_leI (a := (nm k - nm i + nm j)) (b := 3) rfl rfl (by omega) (by omega)).mpr c36
          refine lv_iconst (v := 0) F.1 F.2.1 d_TR_fitsAt_39 (by decide) ?_
          exact hret _ _ _ d_TR_fitsAt_40 (by rw [fitB_f he2 hik (by omega) c24 (by omega)]; rfl)
  refine lv_iload_n F.1 F.2.1 d_TR_fitsAt_0 rfl (lv_at hl 1 rfl) ?_
  refine x_rd (x_S (n := 1) (As := [.int (nI i)]) F (c_PA_end l G (nI i)) ok_PA_end k252 ⟨Nat.le_of_ble_eq_true rfl, Nat.le_of_ble_eq_true rfl⟩ rfl rfl hK (trivial) rfl hl.1 rfl (Nat.le_of_ble_eq_true rfl) d_TR_fitsAt_1 ⟨Nat.le_of_ble_eq_true rfl, Nat.le_of_ble_eq_true rfl⟩) ?_
  rw [pj_end_n i hi]
  refine lv_istore_n (lv' := [(3, .int (nI (en i))), (0, .ref a), (1, .int (nI i)), (2, .int (nI j))]) F.1 F.2.1 d_TR_fitsAt_4 rfl hl (by decide) rfl (fun ls hl => ?_)
  refine lv_iload_n F.1 F.2.1 d_TR_fitsAt_5 rfl (lv_at hl 2 rfl) ?_
  refine lv_istore (lv' := [(4, .int (nI i)), (3, .int (nI (en i))), (0, .ref a), (1, .int (nI i)), (2, .int (nI j))]) F.1 F.2.1 d_TR_fitsAt_6 hl (by decide) rfl (fun ls hl => ?_)
  exact loop (en i - i) i (by omega) (Nat.le_refl _) (fun q h1 h2 => by omega) ls hl
/-- COPY's refusals, both paths legal -/
def mayB (f : Nat → Int64) (a b : Nat) : Bool := !decide (f a = wABS) && decide (f b = wABS) && !decide (a ≤ b ∧ b < en a) && decide (f (pa b) = wDIR) && fitB f a b
theorem c_TR_mayCopy (l : Launch) (G : x_G) (a b : Nat) (f : Nat → Int64) (i j : Nat) (hi : i < 125) (hj : j < 125) (li : lg i = true) (lj : lg j = true) (hf : tOk f) : Met l y_TR_mayCopy (x_ws y_TR_mayCopy b_TR_mayCopy 4 (some .boolean)) (x_rm 3 0 0) (x_P G [.ref a, .int (nI i), .int (nI j)] (TR G a b f)) (k2_QcV (.int (x_b (mayB f i j)))) 0 0 (fun _ => False) := by
  refine x_mZ (by decide +kernel) (Nat.le_of_ble_eq_true rfl) (fun p e s m args below meth c F hK hP ls hl Q hret => ?_)
  have hl : lv_has ls 4 [(0, .ref a), (1, .int (nI i)), (2, .int (nI j))] := hl
  obtain ⟨hT, hM, hab⟩ := id hP
  obtain ⟨he1, he2⟩ := en_le i hi li
  have hpj := pa_lt j hj
  have k54 : ∀ (w : Bool) (ls : Array Slot), lv_has ls 4 [(3, .int (x_b w)), (0, .ref a), (1, .int (nI i)), (2, .int (nI j))] → w = decide (i ≤ j ∧ j < en i) → f i ≠ wABS → f j = wABS → W p l e (x_rm 3 0 0) s m args below meth c s.heap [] 0 0 Q (F0 m 54 ls []) := by
    intro w ls hl hw c17 c30
    refine lv_iload_n F.1 F.2.1 d_TR_mayCopy_54 rfl (lv_at hl 0 rfl) ?_
    refine x_bne (tgt := 87) F d_TR_mayCopy_55 (by decide) (fun c55 => ?_) (fun c55 => ?_)
    · refine lv_iconst (v := 0) F.1 F.2.1 d_TR_mayCopy_87 (by decide) ?_
      exact hret _ _ _ d_TR_mayCopy_88 (by unfold mayB; rw [← hw, c55]; simp [x_b])
    · refine lv_aload_n F.1 F.2.1 d_TR_mayCopy_58 rfl (lv_at hl 1 rfl) ?_
      refine x_get F hK hT rfl i_TR 0 (by decide) k80 rfl rfl d_TR_mayCopy_59 ?_
      refine lv_iload_n F.1 F.2.1 d_TR_mayCopy_62 rfl (lv_at hl 3 rfl) ?_
      refine x_rd (x_S (n := 1) (As := [.int (nI j)]) F (c_PA_parent l G (nI j)) ok_PA_parent k230 ⟨Nat.le_of_ble_eq_true rfl, Nat.le_of_ble_eq_true rfl⟩ rfl rfl hK (trivial) rfl hl.1 rfl (Nat.le_of_ble_eq_true rfl) d_TR_mayCopy_63 ⟨Nat.le_of_ble_eq_true rfl, Nat.le_of_ble_eq_true rfl⟩) ?_
      rw [pj_parent_n j hj]
      refine x_laldN F hK hM (by decide) (by omega) d_TR_mayCopy_66 ?_
      refine x_cst F k79 d_TR_mayCopy_67 ?_
      refine x_lne (tgt := 87) F d_TR_mayCopy_70 d_TR_mayCopy_71 (by decide) (fun c70 => ?_) (fun c70 => ?_)
      · refine lv_iconst (v := 0) F.1 F.2.1 d_TR_mayCopy_87 (by decide) ?_
        exact hret _ _ _ d_TR_mayCopy_88 (by unfold mayB; rw [decide_eq_false c70]; simp [x_b])
      · refine lv_aload_n F.1 F.2.1 d_TR_mayCopy_74 rfl (lv_at hl 1 rfl) ?_
        refine lv_iload_n F.1 F.2.1 d_TR_mayCopy_75 rfl (lv_at hl 2 rfl) ?_
        refine lv_iload_n F.1 F.2.1 d_TR_mayCopy_76 rfl (lv_at hl 3 rfl) ?_
        refine x_rd (x_V (n := 2) (As := [.int (nI i), .int (nI j)]) F (c_TR_fitsAt l G a b f i j hi hj li hf) ok_TR_fitsAt k263 ⟨Nat.le_of_ble_eq_true rfl, Nat.le_of_ble_eq_true rfl⟩ rfl rfl hK (x_rcv hK hT rfl) (hP) rfl hl.1 rfl (Nat.le_of_ble_eq_true rfl) d_TR_mayCopy_77 ⟨Nat.le_of_ble_eq_true rfl, Nat.le_of_ble_eq_true rfl⟩) ?_
        refine x_beq (tgt := 87) F d_TR_mayCopy_80 (by decide) (fun c80 => ?_) (fun c80 => ?_)
        · refine lv_iconst (v := 0) F.1 F.2.1 d_TR_mayCopy_87 (by decide) ?_
          exact hret _ _ _ d_TR_mayCopy_88 (by unfold mayB; rw [c80]; simp [x_b])
        · refine lv_iconst (v := 1) F.1 F.2.1 d_TR_mayCopy_83 (by decide) ?_
          refine lv_goto (tgt := 88) F.1 F.2.1 d_TR_mayCopy_84 (by decide) ?_
          exact hret _ _ _ d_TR_mayCopy_88 (by unfold mayB; rw [← hw, c55, c80, decide_eq_true c70, decide_eq_true c30, decide_eq_false c17]; rfl)
  refine lv_iload_n F.1 F.2.1 d_TR_mayCopy_0 rfl (lv_at hl 2 rfl) ?_
  refine x_rd (x_S (n := 1) (As := [.int (nI j)]) F (c_PA_isLegal l G (nI j)) ok_PA_isLegal k219 ⟨Nat.le_of_ble_eq_true rfl, Nat.le_of_ble_eq_true rfl⟩ rfl rfl hK (trivial) rfl hl.1 rfl (Nat.le_of_ble_eq_true rfl) d_TR_mayCopy_1 ⟨Nat.le_of_ble_eq_true rfl, Nat.le_of_ble_eq_true rfl⟩) ?_
  rw [pj_legal_n j hj, lj]
  refine x_beq (tgt := 33) F d_TR_mayCopy_4 (by decide) (fun zq => absurd zq ((by decide))) (fun _ => ?_)
  refine lv_aload_n F.1 F.2.1 d_TR_mayCopy_7 rfl (lv_at hl 0 rfl) ?_
  refine x_get F hK hT rfl i_TR 0 (by decide) k80 rfl rfl d_TR_mayCopy_8 ?_
  refine lv_iload_n F.1 F.2.1 d_TR_mayCopy_11 rfl (lv_at hl 1 rfl) ?_
  refine x_laldN F hK hM (by decide) (by omega) d_TR_mayCopy_12 ?_
  refine x_cst F k75 d_TR_mayCopy_13 ?_
  refine x_leq (tgt := 33) F d_TR_mayCopy_16 d_TR_mayCopy_17 (by decide) (fun c17 => ?_) (fun c17 => ?_)
  · refine lv_iconst (v := 0) F.1 F.2.1 d_TR_mayCopy_33 (by decide) ?_
    exact hret _ _ _ d_TR_mayCopy_34 (by unfold mayB; rw [decide_eq_true c17]; simp [x_b])
  · refine lv_aload_n F.1 F.2.1 d_TR_mayCopy_20 rfl (lv_at hl 0 rfl) ?_
    refine x_get F hK hT rfl i_TR 0 (by decide) k80 rfl rfl d_TR_mayCopy_21 ?_
    refine lv_iload_n F.1 F.2.1 d_TR_mayCopy_24 rfl (lv_at hl 2 rfl) ?_
    refine x_laldN F hK hM (by decide) (by omega) d_TR_mayCopy_25 ?_
    refine x_cst F k75 d_TR_mayCopy_26 ?_
    refine x_leq (tgt := 35) F d_TR_mayCopy_29 d_TR_mayCopy_30 (by decide) (fun c30 => ?_) (fun c30 => ?_)
    · refine lv_iload_n F.1 F.2.1 d_TR_mayCopy_35 rfl (lv_at hl 2 rfl) ?_
      refine lv_iload_n F.1 F.2.1 d_TR_mayCopy_36 rfl (lv_at hl 1 rfl) ?_
      refine lv_icmp_lt (tgt := 52) F.1 F.2.1 d_TR_mayCopy_37 (by decide) (fun c37 => ?_) (fun c37 => ?_)
      · have c37 := (pN_ltI (a := j) (b := i) rfl rfl (by omega) (by omega)).mp c37
        refine lv_iconst (v := 0) F.1 F.2.1 d_TR_mayCopy_52 (by decide) ?_
        refine lv_istore_n (lv' := [(3, .int 0), (0, .ref a), (1, .int (nI i)), (2, .int (nI j))]) F.1 F.2.1 d_TR_mayCopy_53 rfl hl (by decide) rfl (fun ls hl => ?_)
        exact k54 false ls hl (by rw [decide_eq_false (by omega)]) c17 c30
      · have c37 := mt (pN_ltI (a := j) (b := i) rfl rfl (by omega) (by omega)).mpr c37
        refine lv_iload_n F.1 F.2.1 d_TR_mayCopy_40 rfl (lv_at hl 2 rfl) ?_
        refine lv_iload_n F.1 F.2.1 d_TR_mayCopy_41 rfl (lv_at hl 1 rfl) ?_
        refine x_rd (x_S (n := 1) (As := [.int (nI i)]) F (c_PA_end l G (nI i)) ok_PA_end k252 ⟨Nat.le_of_ble_eq_true rfl, Nat.le_of_ble_eq_true rfl⟩ rfl rfl hK (trivial) rfl hl.1 rfl (Nat.le_of_ble_eq_true rfl) d_TR_mayCopy_42 ⟨Nat.le_of_ble_eq_true rfl, Nat.le_of_ble_eq_true rfl⟩) ?_
        rw [pj_end_n i hi]
        refine lv_icmp_ge (tgt := 52) F.1 F.2.1 d_TR_mayCopy_45 (by decide) (fun c45 => ?_) (fun c45 => ?_)
        · have c45 := (pN_leI (a := (en i)) (b := j) rfl rfl (by omega) (by omega)).mp c45
          refine lv_iconst (v := 0) F.1 F.2.1 d_TR_mayCopy_52 (by decide) ?_
          refine lv_istore_n (lv' := [(3, .int 0), (0, .ref a), (1, .int (nI i)), (2, .int (nI j))]) F.1 F.2.1 d_TR_mayCopy_53 rfl hl (by decide) rfl (fun ls hl => ?_)
          exact k54 false ls hl (by rw [decide_eq_false (by omega)]) c17 c30
        · have c45 := mt (pN_leI (a := (en i)) (b := j) rfl rfl (by omega) (by omega)).mpr c45
          refine lv_iconst (v := 1) F.1 F.2.1 d_TR_mayCopy_48 (by decide) ?_
          refine lv_goto (tgt := 53) F.1 F.2.1 d_TR_mayCopy_49 (by decide) ?_
          refine lv_istore_n (lv' := [(3, .int 1), (0, .ref a), (1, .int (nI i)), (2, .int (nI j))]) F.1 F.2.1 d_TR_mayCopy_53 rfl hl (by decide) rfl (fun ls hl => ?_)
          exact k54 true ls hl (by rw [decide_eq_true (by omega)]) c17 c30
    · refine lv_iconst (v := 0) F.1 F.2.1 d_TR_mayCopy_33 (by decide) ?_
      exact hret _ _ _ d_TR_mayCopy_34 (by unfold mayB; rw [decide_eq_false c30]; simp [x_b])
end
section
/-! ===== Tree: copyAll, change ===== -/
def tCp (f : Nat → Int64) (a b k : Nat) : Nat → Int64 := fun q => if a ≤ uw q a b ∧ uw q a b < k ∧ wp (uw q a b) a b = q ∧ b ≤ q ∧ f (uw q a b) ≠ wABS then f (uw q a b) else f q
/-- what a copy of a to b needs -/
def cpOk (f : Nat → Int64) (a b : Nat) : Prop := a < 125 ∧ b < 125 ∧ lg a = true ∧ lg b = true ∧ (en a ≤ b ∨ en b ≤ a) ∧ (∀ q, a ≤ q → q < en a → f q ≠ wABS → lg q = true ∧ nm q + nm b ≤ 3 + nm a)
theorem tCp_0 (f : Nat → Int64) (a b : Nat) : tCp f a b a = f := funext fun q => if_neg (by omega)
theorem tCp_s {f : Nat → Int64} {a b k : Nat} (h : cpOk f a b) (h1 : a ≤ k) (h2 : k < en a) (h3 : f k ≠ wABS) : vp_updL (tCp f a b k) (wp k a b) (f k) = tCp f a b (k + 1) := funext fun q => by
  obtain ⟨ha, hb, la, lb, hd, hq⟩ := h
  obtain ⟨b1, b2, b3⟩ := wp_back ha hb la lb h1 h2 (hq k h1 h2 h3).1 (hq k h1 h2 h3).2
  unfold vp_updL tCp
  by_cases e : q = wp k a b
  · subst e
    rw [if_pos rfl, b3, if_pos ⟨h1, by omega, rfl, b1, h3⟩]
  · rw [if_neg e]
    by_cases e2 : uw q a b = k
    · rw [if_neg (by omega), if_neg (fun z => e (by rw [← z.2.2.1, e2]))]
    · by_cases e3 : a ≤ uw q a b ∧ uw q a b < k ∧ wp (uw q a b) a b = q ∧ b ≤ q ∧ f (uw q a b) ≠ wABS
      · rw [if_pos e3, if_pos ⟨e3.1, by omega, e3.2.2⟩]
      · rw [if_neg e3, if_neg (fun z => e3 ⟨z.1, by omega, z.2.2⟩)]
theorem tCp_n {f : Nat → Int64} {a b k : Nat} (h3 : f k = wABS) : tCp f a b k = tCp f a b (k + 1) := funext fun q => by
  unfold tCp
  by_cases e3 : a ≤ uw q a b ∧ uw q a b < k ∧ wp (uw q a b) a b = q ∧ b ≤ q ∧ f (uw q a b) ≠ wABS
  · rw [if_pos e3, if_pos ⟨e3.1, by omega, e3.2.2⟩]
  · rw [if_neg e3, if_neg (fun z => e3 ⟨z.1, (by
      rcases Nat.lt_or_ge (uw q a b) k with h | h
      · exact h
      · exact absurd (by rw [show uw q a b = k by omega]; exact h3) z.2.2.2.2), z.2.2⟩)]
theorem tCp_src {f : Nat → Int64} {a b k q : Nat} (h : cpOk f a b) (hk : k ≤ en a) (h1 : a ≤ q) (h2 : q < en a) : tCp f a b k q = f q := by
  obtain ⟨ha, hb, la, lb, hd, hq⟩ := h
  unfold tCp
  refine if_neg (fun z => ?_)
  obtain ⟨z1, z2, z3, z4, z5⟩ := z
  obtain ⟨b1, b2, b3⟩ := wp_back ha hb la lb z1 (by omega) (hq _ z1 (by omega) z5).1 (hq _ z1 (by omega) z5).2
  omega
theorem lg_25 {p : Nat} (h : lg p = true) : 25 ≤ p ∧ p < 125 := by
  unfold lg at h
  simp only [Bool.and_eq_true, decide_eq_true_eq] at h
  exact h.1
theorem mayB_ok {f : Nat → Int64} {a b : Nat} (hf : tOk f) (la : lg a = true) (lb : lg b = true) (h : mayB f a b = true) : f a ≠ wABS ∧ f b = wABS ∧ f (pa b) = wDIR ∧ cpOk f a b := by
  unfold mayB at h
  simp only [Bool.and_eq_true, Bool.not_eq_true', decide_eq_true_eq, decide_eq_false_iff_not] at h
  obtain ⟨⟨⟨⟨h1, h2⟩, h3⟩, h4⟩, h5⟩ := h
  have ha := (lg_25 la)
  have hb := (lg_25 lb)
  obtain ⟨e1, e2⟩ := en_le a ha.2 la
  obtain ⟨e3, e4⟩ := en_le b hb.2 lb
  refine ⟨h1, h2, h4, ha.2, hb.2, la, lb, ?_, fun q q1 q2 q3 => ⟨(hf.2 q (by omega) (by omega) q3).1, (fitB_iff e2).mp h5 q q1 q2 q3⟩⟩
  refine rg_apart a ha.2 la b hb.2 ?_
  rw [lb, Bool.true_and]
  have k1 : (decide (a ≤ b) && decide (b < en a)) = false := by
    cases hh : (decide (a ≤ b) && decide (b < en a)) with
    | false => rfl
    | true => simp only [Bool.and_eq_true, decide_eq_true_eq] at hh; exact absurd hh h3
  have k2 : (decide (b ≤ a) && decide (a < en b)) = false := by
    cases hh : (decide (b ≤ a) && decide (a < en b)) with
    | false => rfl
    | true =>
      simp only [Bool.and_eq_true, decide_eq_true_eq] at hh
      rcases Nat.lt_or_ge b a with q | q
      · have := hf.up ha.2 hb.2 la lb q hh.2 h1
        rw [h2] at this
        exact absurd this (by decide)
      · exact absurd ⟨q, by omega⟩ h3
  rw [k1, k2]; rfl
def tCopy (f : Nat → Int64) (a b : Nat) : Option (Nat → Int64) := if mayB f a b = true then some (tCp f a b (en a)) else none
theorem nm_diff (i j : Nat) (h1 : 1 ≤ nm i) (h2 : 1 ≤ nm j) : nI (nm j) - nI (nm i) = 0 ∨ nI (nm j) - nI (nm i) = 1 ∨ nI (nm j) - nI (nm i) = 2 ∨ nI (nm j) - nI (nm i) = -1 ∨ nI (nm j) - nI (nm i) = -2 := by
  have a := nm_lt i
  have b := nm_lt j
  generalize nm i = x at h1 a ⊢
  generalize nm j = y at h2 b ⊢
  have hx : x = 1 ∨ x = 2 ∨ x = 3 := by omega
  have hy : y = 1 ∨ y = 2 ∨ y = 3 := by omega
  rcases hx with rfl | rfl | rfl <;> rcases hy with rfl | rfl | rfl <;> decide +kernel
theorem c_TR_copyAll (l : Launch) (G : x_G) (a b : Nat) (f : Nat → Int64) (i j : Nat) (hi : i < 125) (hj : j < 125) (li : lg i = true) (lj : lg j = true) (hf : tOk f) : Met l y_TR_copyAll (x_ws y_TR_copyAll b_TR_copyAll 5 (some .boolean)) (x_rm 4 0 0) (x_P G [.ref a, .int (nI i), .int (nI j)] (TR G a b f)) (x_Q (TO G b f (tCopy f i j))) 0 0 (fun q => q = b) := by
  refine x_wZ (by decide +kernel) (Nat.le_of_ble_eq_true rfl) (fun p e s m args below meth c F hK hP ls hl Q hret => ?_)
  have hl : lv_has ls 5 [(0, .ref a), (1, .int (nI i)), (2, .int (nI j))] := hl
  obtain ⟨hT, hM, hab⟩ := id hP
  have hS : va_S (fun q => q = b) s.heap s.heap [] := va_S.rf
  obtain ⟨he1, he2⟩ := en_le i hi li
  have h25 := lg_25 li
  have hT0 := hT
  have loop : mayB f i j = true → ∀ (n k : Nat), k + n = en i → i ≤ k → ∀ (H : Heap) (locs : List Loc), x_al G b 125 (tCp f i j k) H → va_S (fun q => q = b) s.heap H locs → ∀ ls : Array Slot, lv_has ls 5 [(4, .int (nI k)), (3, .int (nI (en i))), (0, .ref a), (1, .int (nI i)), (2, .int (nI j))] → W p l e (x_rm 4 0 0) s m args below meth c H locs 0 0 Q (F0 m 19 ls []) := by
    intro hmay n
    obtain ⟨hfi, hfj, hpj, hco⟩ := mayB_ok hf li lj hmay
    induction n with
    | zero =>
      intro k hn hik H locs hM hS ls hl
      refine lv_iload F.1 F.2.1 d_TR_copyAll_19 (lv_at hl 0 rfl) ?_
      refine lv_iload_n F.1 F.2.1 d_TR_copyAll_21 rfl (lv_at hl 1 rfl) ?_
      refine lv_icmp_ge (tgt := 64) F.1 F.2.1 d_TR_copyAll_22 (by decide) (fun _ => ?_) (fun zq => absurd (pN_le (a := (en i)) (b := k) rfl rfl (by omega) (by omega) (by omega)) zq)
      refine lv_iconst (v := 1) F.1 F.2.1 d_TR_copyAll_64 (by decide) ?_
      obtain rfl : k = en i := by omega
      exact hret _ _ _ true _ _ _ _ d_TR_copyAll_65 rfl (by unfold tCopy; rw [if_pos hmay]; exact ⟨rfl, hM, hS.off⟩) hS.2.2 (Nat.le_refl _) (Nat.le_refl _)
    | succ n ih =>
      intro k hn hik H locs hM hS ls hl
      have hT := x_keep hT0 hS.off hab
      refine lv_iload F.1 F.2.1 d_TR_copyAll_19 (lv_at hl 0 rfl) ?_
      refine lv_iload_n F.1 F.2.1 d_TR_copyAll_21 rfl (lv_at hl 1 rfl) ?_
      refine lv_icmp_ge (tgt := 64) F.1 F.2.1 d_TR_copyAll_22 (by decide) (fun zq => absurd zq (pN_nle (a := (en i)) (b := k) rfl rfl (by omega) (by omega) (by omega))) (fun _ => ?_)
      refine lv_aload_n F.1 F.2.1 d_TR_copyAll_25 rfl (lv_at hl 2 rfl) ?_
      refine x_get F hK hT rfl i_TR 0 (by decide) k80 rfl rfl d_TR_copyAll_26 ?_
      refine lv_iload F.1 F.2.1 d_TR_copyAll_29 (lv_at hl 0 rfl) ?_
      refine x_laldN F hK hM (by decide) (by omega) d_TR_copyAll_31 ?_
      have hsrc : tCp f i j k k = f k := tCp_src hco (by omega) hik (by omega)
      rw [hsrc]
      refine x_cst F k75 d_TR_copyAll_32 ?_
      refine x_leq (tgt := 58) F d_TR_copyAll_35 d_TR_copyAll_36 (by decide) (fun c35 => ?_) (fun c35 => ?_)
      · refine lv_iinc (v := (nI (k + 1))) (lv' := [(4, .int (nI (k + 1))), (3, .int (nI (en i))), (0, .ref a), (1, .int (nI i)), (2, .int (nI j))]) F.1 F.2.1 d_TR_copyAll_58 hl (k := 0) rfl (nI_1 k) (by decide) rfl (fun ls hl => ?_)
        refine lv_goto (tgt := 19) F.1 F.2.1 d_TR_copyAll_61 (by decide) ?_
        exact ih (k + 1) (by omega) (by omega) _ _ (by rw [← tCp_n c35]; exact hM) hS ls hl
      · obtain ⟨lk, nk⟩ := hco.2.2.2.2.2 k hik (by omega) c35
        obtain ⟨pe, pl, -⟩ := pj_put_n hi hj li lj hik (by omega) lk nk
        refine lv_aload_n F.1 F.2.1 d_TR_copyAll_39 rfl (lv_at hl 2 rfl) ?_
        refine x_get F hK hT rfl i_TR 0 (by decide) k80 rfl rfl d_TR_copyAll_40 ?_
        refine lv_iload F.1 F.2.1 d_TR_copyAll_43 (lv_at hl 0 rfl) ?_
        refine lv_iload_n F.1 F.2.1 d_TR_copyAll_45 rfl (lv_at hl 3 rfl) ?_
        refine lv_iload_n F.1 F.2.1 d_TR_copyAll_46 rfl (lv_at hl 4 rfl) ?_
        refine x_rd (x_S (n := 3) (As := [.int (nI k), .int (nI i), .int (nI j)]) F (c_PA_whenPut l G (nI k) (nI i) (nI j) (by rw [pj_names_n i hi, pj_names_n j hj]; exact nm_diff i j (lg_nm i hi li) (lg_nm j hj lj))) ok_PA_whenPut k270 ⟨Nat.le_of_ble_eq_true rfl, Nat.le_of_ble_eq_true rfl⟩ rfl rfl hK (trivial) rfl hl.1 rfl (Nat.le_of_ble_eq_true rfl) d_TR_copyAll_47 ⟨Nat.le_of_ble_eq_true rfl, Nat.le_of_ble_eq_true rfl⟩) ?_
        rw [pe]
        refine lv_aload_n F.1 F.2.1 d_TR_copyAll_50 rfl (lv_at hl 2 rfl) ?_
        refine x_get F hK hT rfl i_TR 0 (by decide) k80 rfl rfl d_TR_copyAll_51 ?_
        refine lv_iload F.1 F.2.1 d_TR_copyAll_54 (lv_at hl 0 rfl) ?_
        refine x_laldN F hK hM (by decide) (by omega) d_TR_copyAll_56 ?_
        rw [hsrc]
        refine x_lastN F hK hM (by decide) (by omega) hS rfl d_TR_copyAll_57 (fun H1 locs hM hz1 ho1 hS => ?_)
        have hT := va_at.kept hT (ho1 _ hab)
        refine lv_iinc (v := (nI (k + 1))) (lv' := [(4, .int (nI (k + 1))), (3, .int (nI (en i))), (0, .ref a), (1, .int (nI i)), (2, .int (nI j))]) F.1 F.2.1 d_TR_copyAll_58 hl (k := 0) rfl (nI_1 k) (by decide) rfl (fun ls hl => ?_)
        refine lv_goto (tgt := 19) F.1 F.2.1 d_TR_copyAll_61 (by decide) ?_
        exact ih (k + 1) (by omega) (by omega) _ _ (by rw [← tCp_s hco hik (by omega) c35]; exact hM) hS ls hl
  refine lv_aload_n F.1 F.2.1 d_TR_copyAll_0 rfl (lv_at hl 0 rfl) ?_
  refine lv_iload_n F.1 F.2.1 d_TR_copyAll_1 rfl (lv_at hl 1 rfl) ?_
  refine lv_iload_n F.1 F.2.1 d_TR_copyAll_2 rfl (lv_at hl 2 rfl) ?_
  refine x_rd (x_V (n := 2) (As := [.int (nI i), .int (nI j)]) F (c_TR_mayCopy l G a b f i j hi hj li lj hf) ok_TR_mayCopy k259 ⟨Nat.le_of_ble_eq_true rfl, Nat.le_of_ble_eq_true rfl⟩ rfl rfl hK (x_rcv hK hT rfl) (hP) rfl hl.1 rfl (Nat.le_of_ble_eq_true rfl) d_TR_copyAll_3 ⟨Nat.le_of_ble_eq_true rfl, Nat.le_of_ble_eq_true rfl⟩) ?_
  refine x_bne (tgt := 11) F d_TR_copyAll_6 (by decide) (fun c6 => ?_) (fun c6 => ?_)
  · refine lv_iload_n F.1 F.2.1 d_TR_copyAll_11 rfl (lv_at hl 1 rfl) ?_
    refine x_rd (x_S (n := 1) (As := [.int (nI i)]) F (c_PA_end l G (nI i)) ok_PA_end k252 ⟨Nat.le_of_ble_eq_true rfl, Nat.le_of_ble_eq_true rfl⟩ rfl rfl hK (trivial) rfl hl.1 rfl (Nat.le_of_ble_eq_true rfl) d_TR_copyAll_12 ⟨Nat.le_of_ble_eq_true rfl, Nat.le_of_ble_eq_true rfl⟩) ?_
    rw [pj_end_n i hi]
    refine lv_istore_n (lv' := [(3, .int (nI (en i))), (0, .ref a), (1, .int (nI i)), (2, .int (nI j))]) F.1 F.2.1 d_TR_copyAll_15 rfl hl (by decide) rfl (fun ls hl => ?_)
    refine lv_iload_n F.1 F.2.1 d_TR_copyAll_16 rfl (lv_at hl 2 rfl) ?_
    refine lv_istore (lv' := [(4, .int (nI i)), (3, .int (nI (en i))), (0, .ref a), (1, .int (nI i)), (2, .int (nI j))]) F.1 F.2.1 d_TR_copyAll_17 hl (by decide) rfl (fun ls hl => ?_)
    exact loop c6 (en i - i) i (by omega) (Nat.le_refl _) _ _ (by rw [tCp_0]; exact hM) hS ls hl
  · refine lv_iconst (v := 0) F.1 F.2.1 d_TR_copyAll_9 (by decide) ?_
    exact hret _ _ _ false _ _ _ _ d_TR_copyAll_10 rfl (by unfold tCopy; rw [if_neg (by rw [c6]; decide)]; exact ⟨rfl, hM, hS.off⟩) hS.2.2 (Nat.le_refl _) (Nat.le_refl _)
/-- copyAll to a path that is not legal -/
theorem c_TR_copyAll_bad (l : Launch) (G : x_G) (a b : Nat) (f : Nat → Int64) (i : Nat) (x : Int32) (hx : pj_legal x = false) : Met l y_TR_copyAll (x_ws y_TR_copyAll b_TR_copyAll 5 (some .boolean)) (x_rm 4 0 0) (x_P G [.ref a, .int (nI i), .int x] (TR G a b f)) (x_Q (TO G b f none)) 0 0 (fun q => q = b) := by
  have hmc : Met l y_TR_mayCopy (x_ws y_TR_mayCopy b_TR_mayCopy 4 (some .boolean)) (x_rm 3 0 0) (x_P G [.ref a, .int (nI i), .int x] (TR G a b f)) (k2_QcV (.int (x_b false))) 0 0 (fun _ => False) := by
    refine x_mZ (by decide +kernel) (Nat.le_of_ble_eq_true rfl) (fun p e s m args below meth c F hK hP ls hl Q hret => ?_)
    have hl : lv_has ls 4 [(0, .ref a), (1, .int (nI i)), (2, .int x)] := hl
    refine lv_iload_n F.1 F.2.1 d_TR_mayCopy_0 rfl (lv_at hl 2 rfl) ?_
    refine x_rd (x_S (n := 1) (As := [.int x]) F (c_PA_isLegal l G x) ok_PA_isLegal k219 ⟨Nat.le_of_ble_eq_true rfl, Nat.le_of_ble_eq_true rfl⟩ rfl rfl hK (trivial) rfl hl.1 rfl (Nat.le_of_ble_eq_true rfl) d_TR_mayCopy_1 ⟨Nat.le_of_ble_eq_true rfl, Nat.le_of_ble_eq_true rfl⟩) ?_
    rw [hx]
    refine x_beq (tgt := 33) F d_TR_mayCopy_4 (by decide) (fun _ => ?_) (fun zq => absurd zq ((by decide)))
    refine lv_iconst (v := 0) F.1 F.2.1 d_TR_mayCopy_33 (by decide) ?_
    exact hret _ _ _ d_TR_mayCopy_34 rfl
  refine x_wZ (by decide +kernel) (Nat.le_of_ble_eq_true rfl) (fun p e s m args below meth c F hK hP ls hl Q hret => ?_)
  have hl : lv_has ls 5 [(0, .ref a), (1, .int (nI i)), (2, .int x)] := hl
  obtain ⟨hT, hM, hab⟩ := id hP
  have hS : va_S (fun q => q = b) s.heap s.heap [] := va_S.rf
  refine lv_aload_n F.1 F.2.1 d_TR_copyAll_0 rfl (lv_at hl 0 rfl) ?_
  refine lv_iload_n F.1 F.2.1 d_TR_copyAll_1 rfl (lv_at hl 1 rfl) ?_
  refine lv_iload_n F.1 F.2.1 d_TR_copyAll_2 rfl (lv_at hl 2 rfl) ?_
  refine x_rd (x_V (n := 2) (As := [.int (nI i), .int x]) F (hmc) ok_TR_mayCopy k259 ⟨Nat.le_of_ble_eq_true rfl, Nat.le_of_ble_eq_true rfl⟩ rfl rfl hK (x_rcv hK hT rfl) (hP) rfl hl.1 rfl (Nat.le_of_ble_eq_true rfl) d_TR_copyAll_3 ⟨Nat.le_of_ble_eq_true rfl, Nat.le_of_ble_eq_true rfl⟩) ?_
  refine x_bne (tgt := 11) F d_TR_copyAll_6 (by decide) (fun zq => absurd zq ((by decide))) (fun _ => ?_)
  refine lv_iconst (v := 0) F.1 F.2.1 d_TR_copyAll_9 (by decide) ?_
  exact hret _ _ _ false _ _ _ _ d_TR_copyAll_10 rfl ⟨rfl, hM, hS.off⟩ hS.2.2 (Nat.le_refl _) (Nat.le_refl _)
end
section
/-! ===== Tree: change ===== -/
def tMove (f : Nat → Int64) (a b : Nat) : Option (Nat → Int64) := match tCopy f a b with
  | none => none
  | some g => tRemove g a
def tStep (f : Nat → Int64) (st x y : Int32) : Option (Nat → Int64) :=
  if pj_legal x = true then
    if st = 0 then tWrite f x.toNatClampNeg y.toInt64
    else if st = 1 then tMake f x.toNatClampNeg
    else if st = 2 then tRemove f x.toNatClampNeg
    else if st = 3 then (if pj_legal y = true then tCopy f x.toNatClampNeg y.toNatClampNeg else none)
    else if st = 4 then (if pj_legal y = true then tMove f x.toNatClampNeg y.toNatClampNeg else none)
    else none
  else none
theorem x_sw5 (x : Int32) : x = 0 ∨ x = 1 ∨ x = 2 ∨ x = 3 ∨ x = 4 ∨ (x.toInt < 0 ∨ 4 < x.toInt) := by
  rcases pk_ix x (n := 5) (by decide) with h | h | ⟨j, h1, rfl⟩
  · exact Or.inr (Or.inr (Or.inr (Or.inr (Or.inr (Or.inl (by simpa using Int32.lt_iff_toInt_lt.mp h))))))
  · exact Or.inr (Or.inr (Or.inr (Or.inr (Or.inr (Or.inr (by have := Int32.le_iff_toInt_le.mp h; rw [nI_toInt (by decide)] at this; omega))))))
  · have : j = 0 ∨ j = 1 ∨ j = 2 ∨ j = 3 ∨ j = 4 := by omega
    rcases this with rfl | rfl | rfl | rfl | rfl
    · exact Or.inl rfl
    · exact Or.inr (Or.inl rfl)
    · exact Or.inr (Or.inr (Or.inl rfl))
    · exact Or.inr (Or.inr (Or.inr (Or.inl rfl)))
    · exact Or.inr (Or.inr (Or.inr (Or.inr (Or.inl rfl))))
theorem tMove_some {f : Nat → Int64} {a b : Nat} (hf : tOk f) (la : lg a = true) (lb : lg b = true) {g : Nat → Int64} (hg : tCopy f a b = some g) : tRemove g a = some (tWipe g a (en a)) := by
  unfold tCopy at hg
  by_cases hm : mayB f a b = true
  · rw [if_pos hm] at hg
    cases hg
    obtain ⟨h1, -, -, hco⟩ := mayB_ok hf la lb hm
    have h25 := lg_25 la
    obtain ⟨e1, e2⟩ := en_le a h25.2 la
    unfold tRemove
    rw [if_neg (by rw [tCp_src hco (Nat.le_refl _) (Nat.le_refl _) e1]; exact h1)]
  · rw [if_neg hm] at hg
    cases hg
theorem c_TR_change (l : Launch) (G : x_G) (a b : Nat) (f : Nat → Int64) (st x y : Int32) (hf : tOk f) : Met l y_TR_change (x_ws y_TR_change b_TR_change 4 (some .boolean)) (x_rm 5 0 0) (x_P G [.ref a, .int st, .int x, .int y] (TR G a b f)) (x_Q (TO G b f (tStep f st x y))) 0 0 (fun q => q = b) := by
  refine x_wZ (by decide +kernel) (Nat.le_of_ble_eq_true rfl) (fun p e s m args below meth c F hK hP ls hl Q hret => ?_)
  have hl : lv_has ls 4 [(0, .ref a), (1, .int st), (2, .int x), (3, .int y)] := hl
  obtain ⟨hT, hM, hab⟩ := id hP
  have hS : va_S (fun q => q = b) s.heap s.heap [] := va_S.rf
  refine lv_iload_n F.1 F.2.1 d_TR_change_0 rfl (lv_at hl 2 rfl) ?_
  refine x_rd (x_S (n := 1) (As := [.int x]) F (c_PA_isLegal l G x) ok_PA_isLegal k219 ⟨Nat.le_of_ble_eq_true rfl, Nat.le_of_ble_eq_true rfl⟩ rfl rfl hK (trivial) rfl hl.1 rfl (Nat.le_of_ble_eq_true rfl) d_TR_change_1 ⟨Nat.le_of_ble_eq_true rfl, Nat.le_of_ble_eq_true rfl⟩) ?_
  refine x_bne (tgt := 9) F d_TR_change_4 (by decide) (fun c4 => ?_) (fun c4 => ?_)
  · obtain ⟨i, hi, rfl, li⟩ := legal_of c4
    have hci : (nI i).toNatClampNeg = i := nI_clamp (by omega)
    unfold tStep at hret
    rw [if_pos c4, hci] at hret
    refine lv_iload_n F.1 F.2.1 d_TR_change_9 rfl (lv_at hl 1 rfl) ?_
    rcases x_sw5 st with rfl | rfl | rfl | rfl | rfl | hst
    · rw [if_pos rfl] at hret
      refine lv_tableIn (off := 34) (tgt := 44) F.1 F.2.1 d_TR_change_10 (by decide) (by decide) (by decide) (by decide) ?_
      refine lv_aload_n F.1 F.2.1 d_TR_change_44 rfl (lv_at hl 0 rfl) ?_
      refine lv_iload_n F.1 F.2.1 d_TR_change_45 rfl (lv_at hl 2 rfl) ?_
      refine lv_iload_n F.1 F.2.1 d_TR_change_46 rfl (lv_at hl 3 rfl) ?_
      refine x_wr (x_V (n := 2) (As := [.int (nI i), .int y]) F (c_TR_writeFile l G a b f i y hi) ok_TR_writeFile k222 ⟨Nat.le_of_ble_eq_true rfl, Nat.le_of_ble_eq_true rfl⟩ rfl rfl hK (x_rcv hK hT rfl) (hP) rfl hl.1 rfl (Nat.le_of_ble_eq_true rfl) d_TR_change_47 ⟨Nat.le_of_ble_eq_true rfl, Nat.le_of_ble_eq_true rfl⟩) hS (fun _ h => h) (fun _ _ h => h.2.2) (fun v H1 locs hpost hS => ?_)
      obtain ⟨rfl, hM, ho⟩ := hpost
      exact hret _ _ _ _ _ _ _ _ d_TR_change_50 rfl ⟨rfl, hM, hS.off⟩ hS.2.2 (Nat.le_refl _) (Nat.le_refl _)
    · rw [if_neg (by decide), if_pos rfl] at hret
      refine lv_tableIn (off := 41) (tgt := 51) F.1 F.2.1 d_TR_change_10 (by decide) (by decide) (by decide) (by decide) ?_
      refine lv_aload_n F.1 F.2.1 d_TR_change_51 rfl (lv_at hl 0 rfl) ?_
      refine lv_iload_n F.1 F.2.1 d_TR_change_52 rfl (lv_at hl 2 rfl) ?_
      refine x_wr (x_V (n := 1) (As := [.int (nI i)]) F (c_TR_makeDirectory l G a b f i hi) ok_TR_makeDirectory k244 ⟨Nat.le_of_ble_eq_true rfl, Nat.le_of_ble_eq_true rfl⟩ rfl rfl hK (x_rcv hK hT rfl) (hP) rfl hl.1 rfl (Nat.le_of_ble_eq_true rfl) d_TR_change_53 ⟨Nat.le_of_ble_eq_true rfl, Nat.le_of_ble_eq_true rfl⟩) hS (fun _ h => h) (fun _ _ h => h.2.2) (fun v H2 locs hpost hS => ?_)
      obtain ⟨rfl, hM, ho⟩ := hpost
      exact hret _ _ _ _ _ _ _ _ d_TR_change_56 rfl ⟨rfl, hM, hS.off⟩ hS.2.2 (Nat.le_refl _) (Nat.le_refl _)
    · rw [if_neg (by decide), if_neg (by decide), if_pos rfl] at hret
      refine lv_tableIn (off := 47) (tgt := 57) F.1 F.2.1 d_TR_change_10 (by decide) (by decide) (by decide) (by decide) ?_
      refine lv_aload_n F.1 F.2.1 d_TR_change_57 rfl (lv_at hl 0 rfl) ?_
      refine lv_iload_n F.1 F.2.1 d_TR_change_58 rfl (lv_at hl 2 rfl) ?_
      refine x_wr (x_V (n := 1) (As := [.int (nI i)]) F (c_TR_removeAll l G a b f i hi li) ok_TR_removeAll k248 ⟨Nat.le_of_ble_eq_true rfl, Nat.le_of_ble_eq_true rfl⟩ rfl rfl hK (x_rcv hK hT rfl) (hP) rfl hl.1 rfl (Nat.le_of_ble_eq_true rfl) d_TR_change_59 ⟨Nat.le_of_ble_eq_true rfl, Nat.le_of_ble_eq_true rfl⟩) hS (fun _ h => h) (fun _ _ h => h.2.2) (fun v H3 locs hpost hS => ?_)
      obtain ⟨rfl, hM, ho⟩ := hpost
      exact hret _ _ _ _ _ _ _ _ d_TR_change_62 rfl ⟨rfl, hM, hS.off⟩ hS.2.2 (Nat.le_refl _) (Nat.le_refl _)
    · rw [if_neg (by decide), if_neg (by decide), if_neg (by decide), if_pos rfl] at hret
      refine lv_tableIn (off := 53) (tgt := 63) F.1 F.2.1 d_TR_change_10 (by decide) (by decide) (by decide) (by decide) ?_
      cases hy : pj_legal y with
      | true =>
        obtain ⟨j, hj, rfl, lj⟩ := legal_of hy
        rw [if_pos hy, show (nI j).toNatClampNeg = j from nI_clamp (by omega)] at hret
        refine lv_aload_n F.1 F.2.1 d_TR_change_63 rfl (lv_at hl 0 rfl) ?_
        refine lv_iload_n F.1 F.2.1 d_TR_change_64 rfl (lv_at hl 2 rfl) ?_
        refine lv_iload_n F.1 F.2.1 d_TR_change_65 rfl (lv_at hl 3 rfl) ?_
        refine x_wr (x_V (n := 2) (As := [.int (nI i), .int (nI j)]) F (c_TR_copyAll l G a b f i j hi hj li lj hf) ok_TR_copyAll k255 ⟨Nat.le_of_ble_eq_true rfl, Nat.le_of_ble_eq_true rfl⟩ rfl rfl hK (x_rcv hK hT rfl) (hP) rfl hl.1 rfl (Nat.le_of_ble_eq_true rfl) d_TR_change_66 ⟨Nat.le_of_ble_eq_true rfl, Nat.le_of_ble_eq_true rfl⟩) hS (fun _ h => h) (fun _ _ h => h.2.2) (fun v H4 locs hpost hS => ?_)
        obtain ⟨rfl, hM, ho⟩ := hpost
        exact hret _ _ _ _ _ _ _ _ d_TR_change_69 rfl ⟨rfl, hM, hS.off⟩ hS.2.2 (Nat.le_refl _) (Nat.le_refl _)
      | false =>
        rw [if_neg (by rw [hy]; decide)] at hret
        refine lv_aload_n F.1 F.2.1 d_TR_change_63 rfl (lv_at hl 0 rfl) ?_
        refine lv_iload_n F.1 F.2.1 d_TR_change_64 rfl (lv_at hl 2 rfl) ?_
        refine lv_iload_n F.1 F.2.1 d_TR_change_65 rfl (lv_at hl 3 rfl) ?_
        refine x_wr (x_V (n := 2) (As := [.int (nI i), .int y]) F (c_TR_copyAll_bad l G a b f i y hy) ok_TR_copyAll k255 ⟨Nat.le_of_ble_eq_true rfl, Nat.le_of_ble_eq_true rfl⟩ rfl rfl hK (x_rcv hK hT rfl) (hP) rfl hl.1 rfl (Nat.le_of_ble_eq_true rfl) d_TR_change_66 ⟨Nat.le_of_ble_eq_true rfl, Nat.le_of_ble_eq_true rfl⟩) hS (fun _ h => h) (fun _ _ h => h.2.2) (fun v H5 locs hpost hS => ?_)
        obtain ⟨rfl, hM, ho⟩ := hpost
        exact hret _ _ _ _ _ _ _ _ d_TR_change_69 rfl ⟨rfl, hM, hS.off⟩ hS.2.2 (Nat.le_refl _) (Nat.le_refl _)
    · rw [if_neg (by decide), if_neg (by decide), if_neg (by decide), if_neg (by decide), if_pos rfl] at hret
      refine lv_tableIn (off := 60) (tgt := 70) F.1 F.2.1 d_TR_change_10 (by decide) (by decide) (by decide) (by decide) ?_
      cases hy : pj_legal y with
      | true =>
        obtain ⟨j, hj, rfl, lj⟩ := legal_of hy
        rw [if_pos hy, show (nI j).toNatClampNeg = j from nI_clamp (by omega)] at hret
        refine lv_aload_n F.1 F.2.1 d_TR_change_70 rfl (lv_at hl 0 rfl) ?_
        refine lv_iload_n F.1 F.2.1 d_TR_change_71 rfl (lv_at hl 2 rfl) ?_
        refine lv_iload_n F.1 F.2.1 d_TR_change_72 rfl (lv_at hl 3 rfl) ?_
        refine x_wr (x_V (n := 2) (As := [.int (nI i), .int (nI j)]) F (c_TR_copyAll l G a b f i j hi hj li lj hf) ok_TR_copyAll k255 ⟨Nat.le_of_ble_eq_true rfl, Nat.le_of_ble_eq_true rfl⟩ rfl rfl hK (x_rcv hK hT rfl) (hP) rfl hl.1 rfl (Nat.le_of_ble_eq_true rfl) d_TR_change_73 ⟨Nat.le_of_ble_eq_true rfl, Nat.le_of_ble_eq_true rfl⟩) hS (fun _ h => h) (fun _ _ h => h.2.2) (fun v H6 locs hpost hS => ?_)
        obtain ⟨rfl, hM, ho⟩ := hpost
        unfold tMove at hret
        cases hg : tCopy f i j with
        | none =>
          rw [hg] at hM hret
          refine x_beq (tgt := 91) F d_TR_change_76 (by decide) (fun _ => ?_) (fun zq => absurd zq ((by decide)))
          refine lv_iconst (v := 0) F.1 F.2.1 d_TR_change_91 (by decide) ?_
          exact hret _ _ _ false _ _ _ _ d_TR_change_92 rfl ⟨rfl, hM, hS.off⟩ hS.2.2 (Nat.le_refl _) (Nat.le_refl _)
        | some g =>
          rw [hg] at hM hret
          have hT := x_keep hT ho hab
          have hrm := tMove_some hf li lj hg
          refine x_beq (tgt := 91) F d_TR_change_76 (by decide) (fun zq => absurd zq (by simp)) (fun _ => ?_)
          refine lv_aload_n F.1 F.2.1 d_TR_change_79 rfl (lv_at hl 0 rfl) ?_
          refine lv_iload_n F.1 F.2.1 d_TR_change_80 rfl (lv_at hl 2 rfl) ?_
          refine x_wr (x_V (n := 1) (As := [.int (nI i)]) F (c_TR_removeAll l G a b g i hi li) ok_TR_removeAll k248 ⟨Nat.le_of_ble_eq_true rfl, Nat.le_of_ble_eq_true rfl⟩ rfl rfl hK (x_rcv hK hT rfl) (⟨hT, hM, hab⟩) rfl hl.1 rfl (Nat.le_of_ble_eq_true rfl) d_TR_change_81 ⟨Nat.le_of_ble_eq_true rfl, Nat.le_of_ble_eq_true rfl⟩) hS (fun _ h => h) (fun _ _ h => h.2.2) (fun v H7 locs hpost hS => ?_)
          obtain ⟨rfl, hM, ho⟩ := hpost
          rw [hrm] at hM
          simp only [hrm] at hret ⊢
          refine x_beq (tgt := 91) F d_TR_change_84 (by decide) (fun zq => absurd zq (by simp)) (fun _ => ?_)
          refine lv_iconst (v := 1) F.1 F.2.1 d_TR_change_87 (by decide) ?_
          refine lv_goto (tgt := 92) F.1 F.2.1 d_TR_change_88 (by decide) ?_
          exact hret _ _ _ true _ _ _ _ d_TR_change_92 rfl ⟨rfl, hM, hS.off⟩ hS.2.2 (Nat.le_refl _) (Nat.le_refl _)
      | false =>
        rw [if_neg (by rw [hy]; decide)] at hret
        refine lv_aload_n F.1 F.2.1 d_TR_change_70 rfl (lv_at hl 0 rfl) ?_
        refine lv_iload_n F.1 F.2.1 d_TR_change_71 rfl (lv_at hl 2 rfl) ?_
        refine lv_iload_n F.1 F.2.1 d_TR_change_72 rfl (lv_at hl 3 rfl) ?_
        refine x_wr (x_V (n := 2) (As := [.int (nI i), .int y]) F (c_TR_copyAll_bad l G a b f i y hy) ok_TR_copyAll k255 ⟨Nat.le_of_ble_eq_true rfl, Nat.le_of_ble_eq_true rfl⟩ rfl rfl hK (x_rcv hK hT rfl) (hP) rfl hl.1 rfl (Nat.le_of_ble_eq_true rfl) d_TR_change_73 ⟨Nat.le_of_ble_eq_true rfl, Nat.le_of_ble_eq_true rfl⟩) hS (fun _ h => h) (fun _ _ h => h.2.2) (fun v H8 locs hpost hS => ?_)
        obtain ⟨rfl, hM, ho⟩ := hpost
        refine x_beq (tgt := 91) F d_TR_change_76 (by decide) (fun _ => ?_) (fun zq => absurd zq ((by decide)))
        refine lv_iconst (v := 0) F.1 F.2.1 d_TR_change_91 (by decide) ?_
        exact hret _ _ _ false _ _ _ _ d_TR_change_92 rfl ⟨rfl, hM, hS.off⟩ hS.2.2 (Nat.le_refl _) (Nat.le_refl _)
    · rw [if_neg (by rintro rfl; revert hst; decide), if_neg (by rintro rfl; revert hst; decide), if_neg (by rintro rfl; revert hst; decide), if_neg (by rintro rfl; revert hst; decide), if_neg (by rintro rfl; revert hst; decide)] at hret
      refine lv_tableOut (tgt := 93) F.1 F.2.1 d_TR_change_10 hst (by decide) ?_
      refine lv_iconst (v := 0) F.1 F.2.1 d_TR_change_93 (by decide) ?_
      exact hret _ _ _ false _ _ _ _ d_TR_change_94 rfl ⟨rfl, hM, hS.off⟩ hS.2.2 (Nat.le_refl _) (Nat.le_refl _)
  · refine lv_iconst (v := 0) F.1 F.2.1 d_TR_change_7 (by decide) ?_
    exact hret _ _ _ false _ _ _ _ d_TR_change_8 rfl (by unfold tStep; rw [if_neg (by rw [c4]; decide)]; exact ⟨rfl, hM, hS.off⟩) hS.2.2 (Nat.le_refl _) (Nat.le_refl _)
end
section
/-! ===== new cells by a name; arrays that say the same where they are ===== -/
section XW
variable {p : Program} {l : Launch} {e : Env} {R : Room} {s : State} {m : MethodId} {args : Array Value} {below : List Frame} {meth : Method} {c : Code} {H : Heap} {locs : List Loc} {cells slots : Nat} {Q : State → Prop}
variable {cc : ByteArray} {pc nL index : Nat} {ls : Array Slot} {rest : List Value} {own C : String} {G : x_G} {A : Nat → Prop} {H0 : Heap} {T : u_T} {n ci : Nat} {fs : List Value} {N : Nat}
theorem x_newaI (F : x_F p m c cc nL s args own) (hK : x_K G s) (hN : N < 100000) (hcells : cells + 1 ≤ R.cells) (hslots : slots + N ≤ R.slots) (hS : va_S A H0 H locs) (hdg : decode cc pc = .ok (.newarray .int, 2))
    (kk : ∀ (q : Nat) (H1 : Heap), q = H.size → x_ai G q N (fun _ => 0) H1 → H1.size = H.size + 1 → (∀ q : Nat, q < H.size → H1[q]? = H[q]?) → va_S A H0 H1 locs → W p l e R s m args below meth c H1 locs (cells + 1) (slots + N) Q (F0 m (pc + 2) ls (.ref q :: rest))) : W p l e R s m args below meth c H locs cells slots Q (F0 m pc ls (.int (nI N) :: rest)) :=
  x_newa (atype := .int) (a0 := (N, .inl (fun _ => 0))) F hK k68 0 rfl (fun h => h) (fun _ => rfl) (nI_pos (by omega)) (nI_clamp (by omega)) (by show N * 4 ≤ _; omega) hcells hslots hS hdg (fun H1 => kk H.size H1 rfl)
theorem x_newaJ (F : x_F p m c cc nL s args own) (hK : x_K G s) (hN : N < 100000) (hcells : cells + 1 ≤ R.cells) (hslots : slots + N ≤ R.slots) (hS : va_S A H0 H locs) (hdg : decode cc pc = .ok (.newarray .long, 2))
    (kk : ∀ (q : Nat) (H1 : Heap), q = H.size → x_al G q N (fun _ => 0) H1 → H1.size = H.size + 1 → (∀ q : Nat, q < H.size → H1[q]? = H[q]?) → va_S A H0 H1 locs → W p l e R s m args below meth c H1 locs (cells + 1) (slots + N) Q (F0 m (pc + 2) ls (.ref q :: rest))) : W p l e R s m args below meth c H locs cells slots Q (F0 m pc ls (.int (nI N) :: rest)) :=
  x_newa (atype := .long) (a0 := (N, .inr (.inl (fun _ => 0)))) F hK k84 1 rfl (fun h => h) (fun _ => rfl) (nI_pos (by omega)) (nI_clamp (by omega)) (by show N * 8 ≤ _; omega) hcells hslots hS hdg (fun H1 => kk H.size H1 rfl)
theorem x_newaZ (F : x_F p m c cc nL s args own) (hK : x_K G s) (hN : N < 100000) (hcells : cells + 1 ≤ R.cells) (hslots : slots + N ≤ R.slots) (hS : va_S A H0 H locs) (hdg : decode cc pc = .ok (.newarray .boolean, 2))
    (kk : ∀ (q : Nat) (H1 : Heap), q = H.size → x_az G q N (fun _ => 0) H1 → H1.size = H.size + 1 → (∀ q : Nat, q < H.size → H1[q]? = H[q]?) → va_S A H0 H1 locs → W p l e R s m args below meth c H1 locs (cells + 1) (slots + N) Q (F0 m (pc + 2) ls (.ref q :: rest))) : W p l e R s m args below meth c H locs cells slots Q (F0 m pc ls (.int (nI N) :: rest)) :=
  x_newa (atype := .boolean) (a0 := (N, .inl (fun _ => 0))) F hK k67 2 rfl (fun h => h) (fun _ => rfl) (nI_pos (by omega)) (nI_clamp (by omega)) (by show N * 1 ≤ _; omega) hcells hslots hS hdg (fun H1 => kk H.size H1 rfl)
theorem x_newO (F : x_F p m c cc nL s args own) (hK : x_K G s) (hc : x_cl[ci]? = some (C, T, n)) (hin : ∀ w ∈ u_ws C T n, w ∈ x_tb) (ty : Nat → FieldType) (hty : ∀ k, k < n → parseFieldDescriptor (T k).2.2.1 = some (ty k)) (kl : Cond.classLink own index C ∈ x_tb) (ki : Cond.instantiable C n ∈ x_tb) (kn : Cond.initialized C ∈ x_tb) (hfs : ∀ j, j < n → defaultValue (ty j) = vp_V fs j) (hcells : cells + 1 ≤ R.cells) (hslots : slots + n ≤ R.slots) (hS : va_S A H0 H locs) (hdg : decode cc pc = .ok (.new index, 3))
    (kk : ∀ (q : Nat) (H1 : Heap), q = H.size → va_at G.1 x_cl (q, .inr (ci, fs)) H1 → H1.size = H.size + 1 → (∀ q : Nat, q < H.size → H1[q]? = H[q]?) → va_S A H0 H1 locs → W p l e R s m args below meth c H1 locs (cells + 1) (slots + n) Q (F0 m (pc + 3) ls (.ref q :: rest))) : W p l e R s m args below meth c H locs cells slots Q (F0 m pc ls rest) :=
  x_new F hK hc hin ty hty kl ki kn hfs hcells hslots hS hdg (fun H1 => kk H.size H1 rfl)
end XW
theorem arrV_cg {cA : ClassId} {n : Nat} {f g : Nat → Value} (h : ∀ j, j < n → f j = g j) : arrV cA n f = arrV cA n g := by
  unfold arrV
  congr 2
  funext j
  exact h j.val j.isLt
theorem x_ai.cg {G : x_G} {a n : Nat} {f g : Nat → Int32} {H : Heap} (hf : x_ai G a n f H) (h : ∀ j, j < n → f j = g j) : x_ai G a n g H := by
  show H[a]? = some (vp_cell _ _)
  rw [vp_cell_i, ← arrV_cg (f := fun j => .int (f j)) (fun j hj => by rw [h j hj])]
  exact hf
theorem x_az.cg {G : x_G} {a n : Nat} {f g : Nat → Int32} {H : Heap} (hf : x_az G a n f H) (h : ∀ j, j < n → f j = g j) : x_az G a n g H := by
  show H[a]? = some (vp_cell _ _)
  rw [vp_cell_i, ← arrV_cg (f := fun j => .int (f j)) (fun j hj => by rw [h j hj])]
  exact hf
theorem x_al.cg {G : x_G} {a n : Nat} {f g : Nat → Int64} {H : Heap} (hf : x_al G a n f H) (h : ∀ j, j < n → f j = g j) : x_al G a n g H := by
  show H[a]? = some (vp_cell _ _)
  rw [vp_cell_l, ← arrV_cg (f := fun j => .long (f j)) (fun j hj => by rw [h j hj])]
  exact hf
/-! ===== Arrays.fill ===== -/
def fillL (f : Nat → Int64) (v : Int64) (k : Nat) : Nat → Int64 := fun j => if j < k then v else f j
theorem fillL_s (f : Nat → Int64) (v : Int64) (k : Nat) : vp_updL (fillL f v k) k v = fillL f v (k + 1) := funext fun j => by
  unfold vp_updL fillL
  by_cases h : j = k
  · rw [if_pos h, if_pos (by omega)]
  · by_cases h2 : j < k
    · rw [if_neg h, if_pos h2, if_pos (by omega)]
    · rw [if_neg h, if_neg h2, if_neg (by omega)]
def fillI (f : Nat → Int32) (v : Int32) (k : Nat) : Nat → Int32 := fun j => if j < k then v else f j
theorem fillI_s (f : Nat → Int32) (v : Int32) (k : Nat) : upd (fillI f v k) k v = fillI f v (k + 1) := funext fun j => by
  unfold upd fillI
  by_cases h : j = k
  · rw [if_pos h, if_pos (by omega)]
  · by_cases h2 : j < k
    · rw [if_neg h, if_pos h2, if_pos (by omega)]
    · rw [if_neg h, if_neg h2, if_neg (by omega)]
theorem c_AR_fillJ (l : Launch) (G : x_G) (b n : Nat) (f : Nat → Int64) (v : Int64) (hn : n < 100000) : Met l y_AR_fillJ (x_ws y_AR_fillJ b_AR_fillJ 5 none) (x_rm 0 0 0) (x_P G [.ref b, .long v] (x_al G b n f)) (x_Q (fun r H H1 => r = none ∧ x_al G b n (fun _ => v) H1 ∧ x_off (fun q => q = b) H H1)) 0 0 (fun q => q = b) := by
  refine x_wV (by decide +kernel) (Nat.le_of_ble_eq_true rfl) (fun p e s m args below meth c F hnm hK hP ls hl Q hret => ?_)
  have hl : lv_has ls 5 [(0, .ref b), (1, .long v)] := hl
  have hS : va_S (fun q => q = b) s.heap s.heap [] := va_S.rf
  have loop : ∀ (d k : Nat), k + d = n → ∀ (H : Heap) (locs : List Loc), x_al G b n (fillL f v k) H → va_S (fun q => q = b) s.heap H locs → ∀ ls : Array Slot, lv_has ls 5 [(3, .int (nI k)), (4, .int (nI n)), (0, .ref b), (1, .long v)] → W p l e (x_rm 0 0 0) s m args below meth c H locs 0 0 Q (F0 m 6 ls []) := by
    intro d
    induction d with
    | zero =>
      intro k hk H locs hM hS ls hl
      refine lv_iload_n F.1 F.2.1 d_AR_fillJ_6 rfl (lv_at hl 0 rfl) ?_
      refine lv_iload F.1 F.2.1 d_AR_fillJ_7 (lv_at hl 1 rfl) ?_
      refine lv_icmp_ge (tgt := 22) F.1 F.2.1 d_AR_fillJ_9 (by decide) (fun _ => ?_) (fun zq => absurd (pN_le (a := n) (b := k) rfl rfl (by omega) (by omega) (by omega)) zq)
      exact hret _ _ _ _ _ _ d_AR_fillJ_22 ⟨rfl, x_al.cg hM (fun j hj => if_pos (by omega)), hS.off⟩ hS.2.2 (Nat.le_refl _) (Nat.le_refl _)
    | succ d ih =>
      intro k hk H locs hM hS ls hl
      refine lv_iload_n F.1 F.2.1 d_AR_fillJ_6 rfl (lv_at hl 0 rfl) ?_
      refine lv_iload F.1 F.2.1 d_AR_fillJ_7 (lv_at hl 1 rfl) ?_
      refine lv_icmp_ge (tgt := 22) F.1 F.2.1 d_AR_fillJ_9 (by decide) (fun zq => absurd zq (pN_nle (a := n) (b := k) rfl rfl (by omega) (by omega) (by omega))) (fun _ => ?_)
      refine lv_aload_n F.1 F.2.1 d_AR_fillJ_12 rfl (lv_at hl 2 rfl) ?_
      refine lv_iload_n F.1 F.2.1 d_AR_fillJ_13 rfl (lv_at hl 0 rfl) ?_
      refine lv_lload_n F.1 F.2.1 d_AR_fillJ_14 rfl (lv_at hl 3 rfl) ?_
      refine x_lastN F hK hM (by omega) (by omega) hS rfl d_AR_fillJ_15 (fun H1 locs hM hz1 ho1 hS => ?_)
      refine lv_iinc (v := (nI (k + 1))) (lv' := [(3, .int (nI (k + 1))), (4, .int (nI n)), (0, .ref b), (1, .long v)]) F.1 F.2.1 d_AR_fillJ_16 hl (k := 0) rfl (nI_1 k) (by decide) rfl (fun ls hl => ?_)
      refine lv_goto (tgt := 6) F.1 F.2.1 d_AR_fillJ_19 (by decide) ?_
      exact ih (k + 1) (by omega) _ _ (by rw [← fillL_s]; exact hM) hS ls hl
  refine lv_iconst (v := 0) F.1 F.2.1 d_AR_fillJ_0 (by decide) ?_
  refine lv_istore_n (lv' := [(3, .int 0), (0, .ref b), (1, .long v)]) F.1 F.2.1 d_AR_fillJ_1 rfl hl (by decide) rfl (fun ls hl => ?_)
  refine lv_aload_n F.1 F.2.1 d_AR_fillJ_2 rfl (lv_at hl 1 rfl) ?_
  refine x_alen F hK hP 1 rfl d_AR_fillJ_3 ?_
  refine lv_istore (lv' := [(4, .int (nI n)), (3, .int 0), (0, .ref b), (1, .long v)]) F.1 F.2.1 d_AR_fillJ_4 hl (by decide) rfl (fun ls hl => ?_)
  exact loop n 0 (by omega) _ _ (x_al.cg hP (fun j _ => (if_neg (Nat.not_lt_zero j)).symm)) hS ls (lv_sub hl [1, 0, 2, 3] rfl)
theorem c_AR_fillI (l : Launch) (G : x_G) (b n : Nat) (f : Nat → Int32) (v : Int32) (hn : n < 100000) : Met l y_AR_fillI (x_ws y_AR_fillI b_AR_fillI 4 none) (x_rm 0 0 0) (x_P G [.ref b, .int v] (x_ai G b n f)) (x_Q (fun r H H1 => r = none ∧ x_ai G b n (fun _ => v) H1 ∧ x_off (fun q => q = b) H H1)) 0 0 (fun q => q = b) := by
  refine x_wV (by decide +kernel) (Nat.le_of_ble_eq_true rfl) (fun p e s m args below meth c F hnm hK hP ls hl Q hret => ?_)
  have hl : lv_has ls 4 [(0, .ref b), (1, .int v)] := hl
  have hS : va_S (fun q => q = b) s.heap s.heap [] := va_S.rf
  have loop : ∀ (d k : Nat), k + d = n → ∀ (H : Heap) (locs : List Loc), x_ai G b n (fillI f v k) H → va_S (fun q => q = b) s.heap H locs → ∀ ls : Array Slot, lv_has ls 4 [(2, .int (nI k)), (3, .int (nI n)), (0, .ref b), (1, .int v)] → W p l e (x_rm 0 0 0) s m args below meth c H locs 0 0 Q (F0 m 5 ls []) := by
    intro d
    induction d with
    | zero =>
      intro k hk H locs hM hS ls hl
      refine lv_iload_n F.1 F.2.1 d_AR_fillI_5 rfl (lv_at hl 0 rfl) ?_
      refine lv_iload_n F.1 F.2.1 d_AR_fillI_6 rfl (lv_at hl 1 rfl) ?_
      refine lv_icmp_ge (tgt := 20) F.1 F.2.1 d_AR_fillI_7 (by decide) (fun _ => ?_) (fun zq => absurd (pN_le (a := n) (b := k) rfl rfl (by omega) (by omega) (by omega)) zq)
      exact hret _ _ _ _ _ _ d_AR_fillI_20 ⟨rfl, x_ai.cg hM (fun j hj => if_pos (by omega)), hS.off⟩ hS.2.2 (Nat.le_refl _) (Nat.le_refl _)
    | succ d ih =>
      intro k hk H locs hM hS ls hl
      refine lv_iload_n F.1 F.2.1 d_AR_fillI_5 rfl (lv_at hl 0 rfl) ?_
      refine lv_iload_n F.1 F.2.1 d_AR_fillI_6 rfl (lv_at hl 1 rfl) ?_
      refine lv_icmp_ge (tgt := 20) F.1 F.2.1 d_AR_fillI_7 (by decide) (fun zq => absurd zq (pN_nle (a := n) (b := k) rfl rfl (by omega) (by omega) (by omega))) (fun _ => ?_)
      refine lv_aload_n F.1 F.2.1 d_AR_fillI_10 rfl (lv_at hl 2 rfl) ?_
      refine lv_iload_n F.1 F.2.1 d_AR_fillI_11 rfl (lv_at hl 0 rfl) ?_
      refine lv_iload_n F.1 F.2.1 d_AR_fillI_12 rfl (lv_at hl 3 rfl) ?_
      refine x_iastN F hK hM (by omega) (by omega) hS rfl d_AR_fillI_13 (fun H2 locs hM hz2 ho2 hS => ?_)
      refine lv_iinc (v := (nI (k + 1))) (lv' := [(2, .int (nI (k + 1))), (3, .int (nI n)), (0, .ref b), (1, .int v)]) F.1 F.2.1 d_AR_fillI_14 hl (k := 0) rfl (nI_1 k) (by decide) rfl (fun ls hl => ?_)
      refine lv_goto (tgt := 5) F.1 F.2.1 d_AR_fillI_17 (by decide) ?_
      exact ih (k + 1) (by omega) _ _ (by rw [← fillI_s]; exact hM) hS ls hl
  refine lv_iconst (v := 0) F.1 F.2.1 d_AR_fillI_0 (by decide) ?_
  refine lv_istore_n (lv' := [(2, .int 0), (0, .ref b), (1, .int v)]) F.1 F.2.1 d_AR_fillI_1 rfl hl (by decide) rfl (fun ls hl => ?_)
  refine lv_aload_n F.1 F.2.1 d_AR_fillI_2 rfl (lv_at hl 1 rfl) ?_
  refine x_alen F hK hP 0 rfl d_AR_fillI_3 ?_
  refine lv_istore_n (lv' := [(3, .int (nI n)), (2, .int 0), (0, .ref b), (1, .int v)]) F.1 F.2.1 d_AR_fillI_4 rfl hl (by decide) rfl (fun ls hl => ?_)
  exact loop n 0 (by omega) _ _ (x_ai.cg hP (fun j _ => (if_neg (Nat.not_lt_zero j)).symm)) hS ls (lv_sub hl [1, 0, 2, 3] rfl)
/-! ===== Tree(): one row of 125; Tree.become ===== -/
def tBare : Nat → Int64 := fun i => if i = 0 then wDIR else wABS
theorem c_TR_init (l : Launch) (G : x_G) (a sz : Nat) : Met l y_TR_init (x_ws y_TR_init b_TR_init 1 none) (x_rm 1 1 125) (x_P G [.ref a] (fun H => H.size = sz ∧ va_at G.1 x_cl (a, .inr (4, [.null])) H)) (x_Q (fun r H H1 => r = none ∧ (∃ b, sz ≤ b ∧ TR G a b tBare H1) ∧ x_off (fun q => q = a) H H1)) 1 125 (fun q => q = a ∨ sz ≤ q) := by
  refine x_wV (by decide +kernel) (Nat.le_of_ble_eq_true rfl) (fun p e s m args below meth c F hnm hK hP ls hl Q hret => ?_)
  have hl : lv_has ls 1 [(0, .ref a)] := hl
  obtain ⟨hsz, hT⟩ := hP
  have hS : va_S (fun q => q = a ∨ sz ≤ q) s.heap s.heap [] := va_S.rf
  refine lv_aload_n F.1 F.2.1 d_TR_init_0 rfl (lv_at hl 0 rfl) ?_
  refine x_oi F k74 hl.1 d_TR_init_1 (by decide) (by decide) ?_
  refine lv_aload_n F.1 F.2.1 d_TR_init_4 rfl (lv_at hl 0 rfl) ?_
  refine lv_bipush (v := 125) F.1 F.2.1 d_TR_init_5 (by decide) ?_
  refine x_newaJ (N := 125) F hK (by omega) (show 0 + 1 ≤ 1 by omega) (show 0 + 125 ≤ 125 by omega) hS d_TR_init_7 (fun b H3 hb hM hz3 ho3 hS => ?_)
  have n_a_b : a ≠ b := by have z := va_at.lt hT; dsimp only at z; omega
  have hT := va_at.kept hT (ho3 _ (va_at.lt hT))
  refine x_putF F hnm hK hT rfl i_TR t_TR p_TR n_TR 0 (by decide) k80 rfl rfl rfl rfl rfl (Nat.le_of_ble_eq_true rfl) hS (Or.inl rfl) d_TR_init_9 (fun H4 locs hT hz4 ho4 hS => ?_)
  have hT : va_at G.1 x_cl (a, .inr (4, [.ref b])) H4 := hT
  have hM := va_at.kept hM (ho4 _ (Ne.symm n_a_b))
  refine lv_aload_n F.1 F.2.1 d_TR_init_12 rfl (lv_at hl 0 rfl) ?_
  refine x_get F hK hT rfl i_TR 0 (by decide) k80 rfl rfl d_TR_init_13 ?_
  refine x_cst F k75 d_TR_init_16 ?_
  refine x_wr (x_S (n := 2) (As := [.ref b, .long 10000000000]) F (c_AR_fillJ l G b 125 (fun _ => 0) wABS (by decide)) ok_AR_fillJ k76 ⟨Nat.le_of_ble_eq_true rfl, Nat.le_of_ble_eq_true rfl⟩ rfl rfl hK (hM) rfl hl.1 rfl (Nat.le_of_ble_eq_true rfl) d_TR_init_19 ⟨Nat.le_of_ble_eq_true rfl, Nat.le_of_ble_eq_true rfl⟩) hS (fun q h => by rw [h]; exact Or.inr (by omega)) (fun _ _ h => h.2.2.mono (fun q h => by rw [h]; exact Or.inr (by omega))) (fun v H5 locs hpost hS => ?_)
  obtain ⟨rfl, hM, ho⟩ := hpost
  have hT := x_keep hT ho n_a_b
  refine lv_aload_n F.1 F.2.1 d_TR_init_22 rfl (lv_at hl 0 rfl) ?_
  refine x_get F hK hT rfl i_TR 0 (by decide) k80 rfl rfl d_TR_init_23 ?_
  refine lv_iconst (v := 0) F.1 F.2.1 d_TR_init_26 (by decide) ?_
  refine x_cst F k79 d_TR_init_27 ?_
  refine x_last F hK hM (by unfold vp_in; decide) hS (Or.inr (by omega)) d_TR_init_30 (fun H6 locs hM hz6 ho6 hS => ?_)
  have hT := va_at.kept hT (ho6 _ n_a_b)
  refine hret _ _ _ _ _ _ d_TR_init_31 ⟨rfl, ⟨b, by omega, hT, x_al.cg hM (fun j _ => ?_), n_a_b⟩, hS.1, fun q h1 h2 => hS.2.1 q h1 (fun z => z.elim h2 (fun z => by omega))⟩ hS.2.2 (Nat.le_of_ble_eq_true rfl) (Nat.le_of_ble_eq_true rfl)
  unfold vp_updL tBare
  rfl
theorem cpy125 {g f : Nat → Int64} {j : Nat} (hj : j < 125) : va_cpy g f (Int32.toNatClampNeg 0) (Int32.toNatClampNeg 0) (Int32.toNatClampNeg 125) j = g j := by
  rw [show Int32.toNatClampNeg 0 = 0 from by decide, show Int32.toNatClampNeg 125 = 125 from by decide, pk_cpy_in (Nat.zero_le _) (by omega)]
  congr 1
  omega
theorem c_TR_become (l : Launch) (G : x_G) (a b a2 b2 : Nat) (f g : Nat → Int64) (hbb : b ≠ b2) : Met l y_TR_become (x_ws y_TR_become b_TR_become 2 none) (x_rm 1 0 0) (x_P G [.ref a, .ref a2] (fun H => TR G a b f H ∧ TR G a2 b2 g H)) (x_Q (TW G b g none)) 0 0 (fun q => q = b ∨ q = b2) := by
  refine x_wV (by decide +kernel) (Nat.le_of_ble_eq_true rfl) (fun p e s m args below meth c F hnm hK hP ls hl Q hret => ?_)
  have hl : lv_has ls 2 [(0, .ref a), (1, .ref a2)] := hl
  obtain ⟨⟨hT, hM, hab⟩, hT2, hM2, hab2⟩ := hP
  refine lv_aload_n F.1 F.2.1 d_TR_become_0 rfl (lv_at hl 1 rfl) ?_
  refine x_get F hK hT2 rfl i_TR 0 (by decide) k80 rfl rfl d_TR_become_1 ?_
  refine lv_iconst (v := 0) F.1 F.2.1 d_TR_become_4 (by decide) ?_
  refine lv_aload_n F.1 F.2.1 d_TR_become_5 rfl (lv_at hl 0 rfl) ?_
  refine x_get F hK hT rfl i_TR 0 (by decide) k80 rfl rfl d_TR_become_6 ?_
  refine lv_iconst (v := 0) F.1 F.2.1 d_TR_become_9 (by decide) ?_
  refine lv_bipush (v := 125) F.1 F.2.1 d_TR_become_10 (by decide) ?_
  have hP0 : va_P G.1 x_cl [(b2, .inl (G.2.2.1, 125, .inr (.inl g))), (b, .inl (G.2.2.1, 125, .inr (.inl f)))] s.heap := x_two hM2 hM
  have hD0 : va_D (fun q => q = b ∨ q = b2) [(b2, (.inl (G.2.2.1, 125, .inr (.inl g)) : va_E)), (b, .inl (G.2.2.1, 125, .inr (.inl f)))] := by
    refine ⟨fun i j p r h1 h2 h3 => ?_, fun k q hk => ?_⟩
    · match i, j, h1, h2 with
      | 0, 0, _, _ => rfl
      | 1, 1, _, _ => rfl
      | 0, 1, h1, h2 => cases h1; cases h2; exact absurd h3.symm hbb
      | 1, 0, h1, h2 => cases h1; cases h2; exact absurd h3 hbb
      | i + 2, _, h1, _ => simp at h1
      | _, j + 2, _, h2 => simp at h2
    · match k, hk with
      | 0, hk => cases hk; exact Or.inr rfl
      | 1, hk => cases hk; exact Or.inl rfl
      | k + 2, hk => simp at hk
  refine va_copyl (q0 := 0) (q1 := 1) (t0 := 1) (t1 := 1) (ty := .long) F.1 F.2.1 (F.2.2.1.trans hl.1.symm) F.2.2.2.1 (F.2.2.2.2 _ k214) (F.2.2.2.2 _ k155) (F.2.2.2.2 _ k154) (F.2.2.2.2 _ k11) hK.1 hP0 hD0 va_S.rf rfl rfl rfl rfl rfl (by decide) (by decide) (by decide) (by decide) (by decide) (fun _ _ => rfl) (by decide) (by decide) d_TR_become_12 (fun H1 locs1 hP1 hD1 hS => ?_)
  have hM' : x_al G b 125 g H1 := x_al.cg (hP1 1 _ rfl) (fun j hj => cpy125 hj)
  have h2' : x_al G b2 125 g H1 := hP1 0 _ rfl
  refine hret _ _ _ _ _ _ d_TR_become_15 ⟨rfl, hM', hS.1, fun q h1 h2 => ?_⟩ hS.2.2 (Nat.le_refl _) (Nat.le_refl _)
  by_cases hq : q = b2
  · subst hq
    exact Eq.trans h2' hM2.symm
  · exact hS.2.1 q h1 (fun z => z.elim h2 hq)
end
section
/-! ===== Store ===== -/
def ST (G : x_G) (a b c : Nat) (hb : Nat → Bool) (tg : Nat → Nat) (H : Heap) : Prop := va_at G.1 x_cl (a, .inr (3, [.ref b, .ref c])) H ∧ x_az G b 40 (fun i => x_b (hb i)) H ∧ x_ai G c 6 (fun i => nI (tg i)) H ∧ a ≠ b ∧ a ≠ c ∧ b ≠ c
def inS (hb : Nat → Bool) (x : Int32) : Bool := !decide (x < 0) && !decide (40 ≤ x) && hb x.toNatClampNeg
theorem vp_of {x c : Int32} {n : Nat} (hc : c = nI n) (hn : n < 2 ^ 31) (h1 : ¬ x < 0) (h2 : ¬ c ≤ x) : vp_in x n := by
  rcases pk_ix x hn with h | h | ⟨j, h3, rfl⟩
  · exact absurd h h1
  · exact absurd (hc ▸ h) h2
  · exact vp_in_nI h3 hn
theorem x_b0 (j : Nat) {v : Int32} (hv : j ≠ 0 → v = 0) : (if j = (0 : Int32).toNatClampNeg then (1 : Int32) else v) = x_b (decide (j = 0)) := by
  have e : (0 : Int32).toNatClampNeg = 0 := by decide
  rw [e]
  by_cases h : j = 0
  · rw [if_pos h, decide_eq_true h]; rfl
  · rw [if_neg h, decide_eq_false h, hv h]; rfl
theorem c_ST_holds (l : Launch) (G : x_G) (a b c0 : Nat) (hb : Nat → Bool) (tg : Nat → Nat) (x : Int32) : Met l y_ST_holds (x_ws y_ST_holds b_ST_holds 2 (some .boolean)) (x_rm 0 0 0) (x_P G [.ref a, .int x] (ST G a b c0 hb tg)) (k2_QcV (.int (x_b (inS hb x)))) 0 0 (fun _ => False) := by
  refine x_mZ (by decide +kernel) (Nat.le_of_ble_eq_true rfl) (fun p e s m args below meth c F hK hP ls hl Q hret => ?_)
  have hl : lv_has ls 2 [(0, .ref a), (1, .int x)] := hl
  obtain ⟨hT, hH, hN, -⟩ := hP
  refine lv_iload_n F.1 F.2.1 d_ST_holds_0 rfl (lv_at hl 1 rfl) ?_
  refine lv_if_lt (tgt := 23) F.1 F.2.1 d_ST_holds_1 (by decide) (fun c1 => ?_) (fun c1 => ?_)
  · refine lv_iconst (v := 0) F.1 F.2.1 d_ST_holds_23 (by decide) ?_
    exact hret _ _ _ d_ST_holds_24 (by unfold inS; rw [decide_eq_true c1]; rfl)
  · refine lv_iload_n F.1 F.2.1 d_ST_holds_4 rfl (lv_at hl 1 rfl) ?_
    refine lv_bipush (v := 40) F.1 F.2.1 d_ST_holds_5 (by decide) ?_
    refine lv_icmp_ge (tgt := 23) F.1 F.2.1 d_ST_holds_7 (by decide) (fun c2 => ?_) (fun c2 => ?_)
    · refine lv_iconst (v := 0) F.1 F.2.1 d_ST_holds_23 (by decide) ?_
      exact hret _ _ _ d_ST_holds_24 (by unfold inS; rw [decide_eq_true c2]; simp [x_b])
    · refine lv_aload_n F.1 F.2.1 d_ST_holds_10 rfl (lv_at hl 0 rfl) ?_
      refine x_get F hK hT rfl i_ST 0 (by decide) k60 rfl rfl d_ST_holds_11 ?_
      refine lv_iload_n F.1 F.2.1 d_ST_holds_14 rfl (lv_at hl 1 rfl) ?_
      refine x_zald F hK hH (vp_of rfl (by decide) c1 c2) d_ST_holds_15 ?_
      refine x_beq (tgt := 23) F d_ST_holds_16 (by decide) (fun c3 => ?_) (fun c3 => ?_)
      · refine lv_iconst (v := 0) F.1 F.2.1 d_ST_holds_23 (by decide) ?_
        exact hret _ _ _ d_ST_holds_24 (by unfold inS; rw [c3]; simp [x_b])
      · refine lv_iconst (v := 1) F.1 F.2.1 d_ST_holds_19 (by decide) ?_
        refine lv_goto (tgt := 24) F.1 F.2.1 d_ST_holds_20 (by decide) ?_
        exact hret _ _ _ d_ST_holds_24 (by unfold inS; rw [c3, decide_eq_false c1, decide_eq_false c2]; rfl)
theorem inS_n (hb : Nat → Bool) {i : Nat} (hi : i < 40) : inS hb (nI i) = hb i := by
  unfold inS
  rw [decide_eq_false (nI_pos (by omega)), decide_eq_false (show ¬ (40 : Int32) ≤ nI i from pN_nle (a := 40) (b := i) rfl rfl (by omega) (by omega) (by omega)), nI_clamp (by omega)]
  rfl
theorem inS_out (hb : Nat → Bool) {x : Int32} (h : x < 0 ∨ 40 ≤ x) : inS hb x = false := by
  unfold inS
  rcases h with h | h
  · rw [decide_eq_true h]; rfl
  · rw [decide_eq_true h]; simp
theorem c_ST_nameOf (l : Launch) (G : x_G) (a b c0 : Nat) (hb : Nat → Bool) (tg : Nat → Nat) (t : Nat) (ht : t < 6) : Met l y_ST_nameOf (x_ws y_ST_nameOf b_ST_nameOf 2 (some .int)) (x_rm 0 0 0) (x_P G [.ref a, .int (nI t)] (ST G a b c0 hb tg)) (k2_QcV (.int (nI (tg t)))) 0 0 (fun _ => False) := by
  refine x_mI (by decide +kernel) (Nat.le_of_ble_eq_true rfl) (fun p e s m args below meth c F hK hP ls hl Q hret => ?_)
  have hl : lv_has ls 2 [(0, .ref a), (1, .int (nI t))] := hl
  obtain ⟨hT, hH, hN, -⟩ := hP
  refine lv_aload_n F.1 F.2.1 d_ST_nameOf_0 rfl (lv_at hl 0 rfl) ?_
  refine x_get F hK hT rfl i_ST 1 (by decide) k61 rfl rfl d_ST_nameOf_1 ?_
  refine lv_iload_n F.1 F.2.1 d_ST_nameOf_4 rfl (lv_at hl 1 rfl) ?_
  refine x_ialdN F hK hN (by decide) (by omega) d_ST_nameOf_5 ?_
  exact hret _ _ _ d_ST_nameOf_6 rfl
theorem c_ST_giveName (l : Launch) (G : x_G) (a b c0 : Nat) (hb : Nat → Bool) (tg : Nat → Nat) (t v : Nat) (ht : t < 6) : Met l y_ST_giveName (x_ws y_ST_giveName b_ST_giveName 3 none) (x_rm 0 0 0) (x_P G [.ref a, .int (nI t), .int (nI v)] (ST G a b c0 hb tg)) (x_Q (fun r H H1 => r = none ∧ ST G a b c0 hb (va_up tg t v) H1 ∧ x_off (fun q => q = c0) H H1)) 0 0 (fun q => q = c0) := by
  refine x_wV (by decide +kernel) (Nat.le_of_ble_eq_true rfl) (fun p e s m args below meth c F hnm hK hP ls hl Q hret => ?_)
  have hl : lv_has ls 3 [(0, .ref a), (1, .int (nI t)), (2, .int (nI v))] := hl
  obtain ⟨hT, hH, hN, h1, h2, h3⟩ := hP
  have hS : va_S (fun q => q = c0) s.heap s.heap [] := va_S.rf
  refine lv_aload_n F.1 F.2.1 d_ST_giveName_0 rfl (lv_at hl 0 rfl) ?_
  refine x_get F hK hT rfl i_ST 1 (by decide) k61 rfl rfl d_ST_giveName_1 ?_
  refine lv_iload_n F.1 F.2.1 d_ST_giveName_4 rfl (lv_at hl 1 rfl) ?_
  refine lv_iload_n F.1 F.2.1 d_ST_giveName_5 rfl (lv_at hl 2 rfl) ?_
  refine x_iastN F hK hN (by decide) (by omega) hS rfl d_ST_giveName_6 (fun H1 locs hN hz1 ho1 hS => ?_)
  have hT := va_at.kept hT (ho1 _ h2)
  have hH := va_at.kept hH (ho1 _ h3)
  refine hret _ _ _ _ _ _ d_ST_giveName_7 ⟨rfl, ⟨hT, hH, x_ai.cg hN (fun j _ => ?_), h1, h2, h3⟩, hS.off⟩ hS.2.2 (Nat.le_refl _) (Nat.le_refl _)
  unfold upd va_up
  by_cases hj : j = t
  · rw [if_pos hj, if_pos hj]
  · rw [if_neg hj, if_neg hj]
def hOr (hb : Nat → Bool) (i : Nat) : Nat → Bool := fun j => hb j || decide (j = i)
theorem c_ST_hold (l : Launch) (G : x_G) (a b c0 : Nat) (hb : Nat → Bool) (tg : Nat → Nat) (i : Nat) (hi : i ≤ 40) : Met l y_ST_hold (x_ws y_ST_hold b_ST_hold 2 none) (x_rm 0 0 0) (x_P G [.ref a, .int (nI i)] (ST G a b c0 hb tg)) (x_Q (fun r H H1 => r = none ∧ ST G a b c0 (hOr hb i) tg H1 ∧ x_off (fun q => q = b) H H1)) 0 0 (fun q => q = b) := by
  refine x_wV (by decide +kernel) (Nat.le_of_ble_eq_true rfl) (fun p e s m args below meth c F hnm hK hP ls hl Q hret => ?_)
  have hl : lv_has ls 2 [(0, .ref a), (1, .int (nI i))] := hl
  obtain ⟨hT, hH, hN, h1, h2, h3⟩ := hP
  have hS : va_S (fun q => q = b) s.heap s.heap [] := va_S.rf
  refine lv_iload_n F.1 F.2.1 d_ST_hold_0 rfl (lv_at hl 1 rfl) ?_
  refine lv_if_lt (tgt := 17) F.1 F.2.1 d_ST_hold_1 (by decide) (fun zq => absurd zq (pN_nlt (a := i) (b := 0) rfl rfl (by omega) (by omega) (by omega))) (fun _ => ?_)
  refine lv_iload_n F.1 F.2.1 d_ST_hold_4 rfl (lv_at hl 1 rfl) ?_
  refine lv_bipush (v := 40) F.1 F.2.1 d_ST_hold_5 (by decide) ?_
  refine lv_icmp_ge (tgt := 17) F.1 F.2.1 d_ST_hold_7 (by decide) (fun c7 => ?_) (fun c7 => ?_)
  · have c7 := (pN_leI (a := 40) (b := i) rfl rfl (by omega) (by omega)).mp c7
    refine hret _ _ _ _ _ _ d_ST_hold_17 ⟨rfl, ⟨hT, x_az.cg hH (fun j hj => ?_), hN, h1, h2, h3⟩, hS.off⟩ hS.2.2 (Nat.le_refl _) (Nat.le_refl _)
    unfold hOr
    rw [decide_eq_false (by omega), Bool.or_false]
  · have c7 := mt (pN_leI (a := 40) (b := i) rfl rfl (by omega) (by omega)).mpr c7
    refine lv_aload_n F.1 F.2.1 d_ST_hold_10 rfl (lv_at hl 0 rfl) ?_
    refine x_get F hK hT rfl i_ST 0 (by decide) k60 rfl rfl d_ST_hold_11 ?_
    refine lv_iload_n F.1 F.2.1 d_ST_hold_14 rfl (lv_at hl 1 rfl) ?_
    refine lv_iconst (v := 1) F.1 F.2.1 d_ST_hold_15 (by decide) ?_
    refine x_zastN F hK hH (by first | rfl | decide) (by decide) (by omega) hS rfl d_ST_hold_16 (fun H2 locs hH hz2 ho2 hS => ?_)
    have hT := va_at.kept hT (ho2 _ h1)
    have hN := va_at.kept hN (ho2 _ (Ne.symm h3))
    refine hret _ _ _ _ _ _ d_ST_hold_17 ⟨rfl, ⟨hT, x_az.cg hH (fun j hj => ?_), hN, h1, h2, h3⟩, hS.off⟩ hS.2.2 (Nat.le_refl _) (Nat.le_refl _)
    unfold upd hOr
    by_cases hji : j = i
    · rw [if_pos hji, decide_eq_true hji, Bool.or_true]; rfl
    · rw [if_neg hji, decide_eq_false hji, Bool.or_false]
/-- image 0, and what the first k tags name -/
def hNm (tg : Nat → Nat) (k : Nat) : Nat → Bool := fun j => decide (j = 0) || (List.range k).any fun t => decide (tg t = j)
theorem hNm_0 (tg : Nat → Nat) : hNm tg 0 = fun j => decide (j = 0) := funext fun j => by simp [hNm]
theorem hNm_s (tg : Nat → Nat) (k : Nat) : hOr (hNm tg k) (tg k) = hNm tg (k + 1) := funext fun j => by
  unfold hOr hNm
  rw [List.range_succ, List.any_append, Bool.or_assoc]
  congr 1
  congr 1
  simp [eq_comm]
theorem c_ST_holdOnlyNamed (l : Launch) (G : x_G) (a b c0 : Nat) (hb : Nat → Bool) (tg : Nat → Nat) (htg : ∀ t, t < 6 → tg t ≤ 40) : Met l y_ST_holdOnlyNamed (x_ws y_ST_holdOnlyNamed b_ST_holdOnlyNamed 5 none) (x_rm 1 0 0) (x_P G [.ref a] (ST G a b c0 hb tg)) (x_Q (fun r H H1 => r = none ∧ ST G a b c0 (hNm tg 6) tg H1 ∧ x_off (fun q => q = b) H H1)) 0 0 (fun q => q = b) := by
  refine x_wV (by decide +kernel) (Nat.le_of_ble_eq_true rfl) (fun p e s m args below meth c F hnm hK hP ls hl Q hret => ?_)
  have hl : lv_has ls 5 [(0, .ref a)] := hl
  obtain ⟨hT, hH, hN, h1, h2, h3⟩ := hP
  have hS : va_S (fun q => q = b) s.heap s.heap [] := va_S.rf
  have hT0 := hT
  have hN0 := hN
  have loop2 : ∀ (d k : Nat), k + d = 6 → ∀ (H : Heap) (locs : List Loc), x_az G b 40 (fun i => x_b (hNm tg k i)) H → va_S (fun q => q = b) s.heap H locs → ∀ ls : Array Slot, lv_has ls 5 [(3, .int (nI k)), (2, .int (nI 6)), (1, .ref c0), (0, .ref a)] → W p l e (x_rm 1 0 0) s m args below meth c H locs 0 0 Q (F0 m 38 ls []) := by
    intro d
    induction d with
    | zero =>
      intro k hk H locs hH hS ls hl
      obtain rfl : k = 6 := by omega
      refine lv_iload_n F.1 F.2.1 d_ST_holdOnlyNamed_38 rfl (lv_at hl 0 rfl) ?_
      refine lv_iload_n F.1 F.2.1 d_ST_holdOnlyNamed_39 rfl (lv_at hl 1 rfl) ?_
      refine lv_icmp_ge (tgt := 60) F.1 F.2.1 d_ST_holdOnlyNamed_40 (by decide) (fun _ => ?_) (fun zq => absurd (pN_le (a := 6) (b := 6) rfl rfl (by omega) (by omega) (by omega)) zq)
      exact hret _ _ _ _ _ _ d_ST_holdOnlyNamed_60 ⟨rfl, ⟨x_keep hT0 hS.off h1, hH, x_keep hN0 hS.off (Ne.symm h3), h1, h2, h3⟩, hS.off⟩ hS.2.2 (Nat.le_refl _) (Nat.le_refl _)
    | succ d ih =>
      intro k hk H locs hH hS ls hl
      have hT := x_keep hT0 hS.off h1
      have hN := x_keep hN0 hS.off (Ne.symm h3)
      refine lv_iload_n F.1 F.2.1 d_ST_holdOnlyNamed_38 rfl (lv_at hl 0 rfl) ?_
      refine lv_iload_n F.1 F.2.1 d_ST_holdOnlyNamed_39 rfl (lv_at hl 1 rfl) ?_
      refine lv_icmp_ge (tgt := 60) F.1 F.2.1 d_ST_holdOnlyNamed_40 (by decide) (fun zq => absurd zq (pN_nle (a := 6) (b := k) rfl rfl (by omega) (by omega) (by omega))) (fun _ => ?_)
      refine lv_aload_n F.1 F.2.1 d_ST_holdOnlyNamed_43 rfl (lv_at hl 2 rfl) ?_
      refine lv_iload_n F.1 F.2.1 d_ST_holdOnlyNamed_44 rfl (lv_at hl 0 rfl) ?_
      refine x_ialdN F hK hN (by decide) (by omega) d_ST_holdOnlyNamed_45 ?_
      refine lv_istore (lv' := [(4, .int (nI (tg k))), (3, .int (nI k)), (2, .int (nI 6)), (1, .ref c0), (0, .ref a)]) F.1 F.2.1 d_ST_holdOnlyNamed_46 hl (by decide) rfl (fun ls hl => ?_)
      refine lv_aload_n F.1 F.2.1 d_ST_holdOnlyNamed_48 rfl (lv_at hl 4 rfl) ?_
      refine lv_iload F.1 F.2.1 d_ST_holdOnlyNamed_49 (lv_at hl 0 rfl) ?_
      refine x_wr (x_V (n := 1) (As := [.int (nI (tg k))]) F (c_ST_hold l G a b c0 (hNm tg k) tg (tg k) (htg k (by omega))) ok_ST_hold k392 ⟨Nat.le_of_ble_eq_true rfl, Nat.le_of_ble_eq_true rfl⟩ rfl rfl hK (x_rcv hK hT rfl) (⟨hT, hH, hN, h1, h2, h3⟩) rfl hl.1 rfl (Nat.le_of_ble_eq_true rfl) d_ST_holdOnlyNamed_51 ⟨Nat.le_of_ble_eq_true rfl, Nat.le_of_ble_eq_true rfl⟩) hS (fun _ h => h) (fun _ _ h => h.2.2) (fun v H3 locs hpost hS => ?_)
      obtain ⟨rfl, ⟨hT, hH, hN, -⟩, ho⟩ := hpost
      have hl : lv_has ls 5 [(3, .int (nI k)), (2, .int (nI 6)), (1, .ref c0), (0, .ref a)] := lv_sub hl [1, 2, 3, 4] rfl
      refine lv_iinc (v := (nI (k + 1))) (lv' := [(3, .int (nI (k + 1))), (2, .int (nI 6)), (1, .ref c0), (0, .ref a)]) F.1 F.2.1 d_ST_holdOnlyNamed_54 hl (k := 0) rfl (nI_1 k) (by decide) rfl (fun ls hl => ?_)
      refine lv_goto (tgt := 38) F.1 F.2.1 d_ST_holdOnlyNamed_57 (by decide) ?_
      exact ih (k + 1) (by omega) _ _ (by rw [← hNm_s]; exact hH) hS ls hl
  have loop1 : ∀ (d k : Nat), k + d = 40 → ∀ (H : Heap) (locs : List Loc), x_az G b 40 (fillI (fun i => x_b (hb i)) 0 k) H → va_S (fun q => q = b) s.heap H locs → ∀ ls : Array Slot, lv_has ls 5 [(1, .int (nI k)), (0, .ref a)] → W p l e (x_rm 1 0 0) s m args below meth c H locs 0 0 Q (F0 m 2 ls []) := by
    intro d
    induction d with
    | zero =>
      intro k hk H locs hH hS ls hl
      have hT := x_keep hT0 hS.off h1
      have hN := x_keep hN0 hS.off (Ne.symm h3)
      refine lv_iload_n F.1 F.2.1 d_ST_holdOnlyNamed_2 rfl (lv_at hl 0 rfl) ?_
      refine lv_bipush (v := 40) F.1 F.2.1 d_ST_holdOnlyNamed_3 (by decide) ?_
      refine lv_icmp_ge (tgt := 21) F.1 F.2.1 d_ST_holdOnlyNamed_5 (by decide) (fun _ => ?_) (fun zq => absurd (pN_le (a := 40) (b := k) rfl rfl (by omega) (by omega) (by omega)) zq)
      refine lv_aload_n F.1 F.2.1 d_ST_holdOnlyNamed_21 rfl (lv_at hl 1 rfl) ?_
      refine x_get F hK hT rfl i_ST 0 (by decide) k60 rfl rfl d_ST_holdOnlyNamed_22 ?_
      refine lv_iconst (v := 0) F.1 F.2.1 d_ST_holdOnlyNamed_25 (by decide) ?_
      refine lv_iconst (v := 1) F.1 F.2.1 d_ST_holdOnlyNamed_26 (by decide) ?_
      refine x_zast F hK hH (by first | rfl | decide) (by unfold vp_in; decide) hS rfl d_ST_holdOnlyNamed_27 (fun H4 locs hH hz4 ho4 hS => ?_)
      have hT := va_at.kept hT (ho4 _ h1)
      have hN := va_at.kept hN (ho4 _ (Ne.symm h3))
      refine lv_aload_n F.1 F.2.1 d_ST_holdOnlyNamed_28 rfl (lv_at hl 1 rfl) ?_
      refine x_get F hK hT rfl i_ST 1 (by decide) k61 rfl rfl d_ST_holdOnlyNamed_29 ?_
      refine lv_astore_n (lv' := [(1, .ref c0), (0, .ref a)]) F.1 F.2.1 d_ST_holdOnlyNamed_32 rfl hl (by decide) rfl (fun ls hl => ?_)
      refine lv_aload_n F.1 F.2.1 d_ST_holdOnlyNamed_33 rfl (lv_at hl 0 rfl) ?_
      refine x_alen F hK hN 0 rfl d_ST_holdOnlyNamed_34 ?_
      refine lv_istore_n (lv' := [(2, .int (nI 6)), (1, .ref c0), (0, .ref a)]) F.1 F.2.1 d_ST_holdOnlyNamed_35 rfl hl (by decide) rfl (fun ls hl => ?_)
      refine lv_iconst (v := 0) F.1 F.2.1 d_ST_holdOnlyNamed_36 (by decide) ?_
      refine lv_istore_n (lv' := [(3, .int 0), (2, .int (nI 6)), (1, .ref c0), (0, .ref a)]) F.1 F.2.1 d_ST_holdOnlyNamed_37 rfl hl (by decide) rfl (fun ls hl => ?_)
      refine loop2 6 0 rfl _ _ (x_az.cg hH (fun j hj => ?_)) hS ls hl
      rw [hNm_0]
      exact x_b0 j (fun _ => if_pos (by omega))
    | succ d ih =>
      intro k hk H locs hH hS ls hl
      have hT := x_keep hT0 hS.off h1
      have hN := x_keep hN0 hS.off (Ne.symm h3)
      refine lv_iload_n F.1 F.2.1 d_ST_holdOnlyNamed_2 rfl (lv_at hl 0 rfl) ?_
      refine lv_bipush (v := 40) F.1 F.2.1 d_ST_holdOnlyNamed_3 (by decide) ?_
      refine lv_icmp_ge (tgt := 21) F.1 F.2.1 d_ST_holdOnlyNamed_5 (by decide) (fun zq => absurd zq (pN_nle (a := 40) (b := k) rfl rfl (by omega) (by omega) (by omega))) (fun _ => ?_)
      refine lv_aload_n F.1 F.2.1 d_ST_holdOnlyNamed_8 rfl (lv_at hl 1 rfl) ?_
      refine x_get F hK hT rfl i_ST 0 (by decide) k60 rfl rfl d_ST_holdOnlyNamed_9 ?_
      refine lv_iload_n F.1 F.2.1 d_ST_holdOnlyNamed_12 rfl (lv_at hl 0 rfl) ?_
      refine lv_iconst (v := 0) F.1 F.2.1 d_ST_holdOnlyNamed_13 (by decide) ?_
      refine x_zastN F hK hH (by first | rfl | decide) (by decide) (by omega) hS rfl d_ST_holdOnlyNamed_14 (fun H5 locs hH hz5 ho5 hS => ?_)
      have hT := va_at.kept hT (ho5 _ h1)
      have hN := va_at.kept hN (ho5 _ (Ne.symm h3))
      refine lv_iinc (v := (nI (k + 1))) (lv' := [(1, .int (nI (k + 1))), (0, .ref a)]) F.1 F.2.1 d_ST_holdOnlyNamed_15 hl (k := 0) rfl (nI_1 k) (by decide) rfl (fun ls hl => ?_)
      refine lv_goto (tgt := 2) F.1 F.2.1 d_ST_holdOnlyNamed_18 (by decide) ?_
      exact ih (k + 1) (by omega) _ _ (by rw [← fillI_s]; exact hH) hS ls hl
  refine lv_iconst (v := 0) F.1 F.2.1 d_ST_holdOnlyNamed_0 (by decide) ?_
  refine lv_istore_n (lv' := [(1, .int 0), (0, .ref a)]) F.1 F.2.1 d_ST_holdOnlyNamed_1 rfl hl (by decide) rfl (fun ls hl => ?_)
  exact loop1 40 0 rfl _ _ (x_az.cg hH (fun j _ => (if_neg (Nat.not_lt_zero j)).symm)) hS ls hl
theorem c_ST_init (l : Launch) (G : x_G) (a sz : Nat) : Met l y_ST_init (x_ws y_ST_init b_ST_init 1 none) (x_rm 1 2 46) (x_P G [.ref a] (fun H => H.size = sz ∧ va_at G.1 x_cl (a, .inr (3, [.null, .null])) H)) (x_Q (fun r H H1 => r = none ∧ (∃ b c0, sz ≤ b ∧ sz ≤ c0 ∧ ST G a b c0 (fun j => decide (j = 0)) (fun _ => 40) H1) ∧ x_off (fun q => q = a) H H1)) 2 46 (fun q => q = a ∨ sz ≤ q) := by
  refine x_wV (by decide +kernel) (Nat.le_of_ble_eq_true rfl) (fun p e s m args below meth c F hnm hK hP ls hl Q hret => ?_)
  have hl : lv_has ls 1 [(0, .ref a)] := hl
  obtain ⟨hsz, hT⟩ := hP
  have hS : va_S (fun q => q = a ∨ sz ≤ q) s.heap s.heap [] := va_S.rf
  refine lv_aload_n F.1 F.2.1 d_ST_init_0 rfl (lv_at hl 0 rfl) ?_
  refine x_oi F k56 hl.1 d_ST_init_1 (by decide) (by decide) ?_
  refine lv_aload_n F.1 F.2.1 d_ST_init_4 rfl (lv_at hl 0 rfl) ?_
  refine lv_bipush (v := 40) F.1 F.2.1 d_ST_init_5 (by decide) ?_
  refine x_newaZ (N := 40) F hK (by omega) (show 0 + 1 ≤ 2 by omega) (show 0 + 40 ≤ 46 by omega) hS d_ST_init_7 (fun b H6 hb hH hz6 ho6 hS => ?_)
  have n_a_b : a ≠ b := by have z := va_at.lt hT; dsimp only at z; omega
  have hT := va_at.kept hT (ho6 _ (va_at.lt hT))
  refine x_putF F hnm hK hT rfl i_ST t_ST p_ST n_ST 0 (by decide) k60 rfl rfl rfl rfl rfl (Nat.le_of_ble_eq_true rfl) hS (Or.inl rfl) d_ST_init_9 (fun H7 locs hT hz7 ho7 hS => ?_)
  have hT : va_at G.1 x_cl (a, .inr (3, [.ref b, .null])) H7 := hT
  have hH := va_at.kept hH (ho7 _ (Ne.symm n_a_b))
  refine lv_aload_n F.1 F.2.1 d_ST_init_12 rfl (lv_at hl 0 rfl) ?_
  refine x_get F hK hT rfl i_ST 0 (by decide) k60 rfl rfl d_ST_init_13 ?_
  refine lv_iconst (v := 0) F.1 F.2.1 d_ST_init_16 (by decide) ?_
  refine lv_iconst (v := 1) F.1 F.2.1 d_ST_init_17 (by decide) ?_
  refine x_zast F hK hH (by first | rfl | decide) (by unfold vp_in; decide) hS (Or.inr (by omega)) d_ST_init_18 (fun H8 locs hH hz8 ho8 hS => ?_)
  have hT := va_at.kept hT (ho8 _ n_a_b)
  refine lv_aload_n F.1 F.2.1 d_ST_init_19 rfl (lv_at hl 0 rfl) ?_
  refine lv_bipush (v := 6) F.1 F.2.1 d_ST_init_20 (by decide) ?_
  refine x_newaI (N := 6) F hK (by omega) (show (0 + 1) + 1 ≤ 2 by omega) (show (0 + 40) + 6 ≤ 46 by omega) hS d_ST_init_22 (fun c0 H9 hc0 hN hz9 ho9 hS => ?_)
  have n_a_c0 : a ≠ c0 := by have z := va_at.lt hT; dsimp only at z; omega
  have hT := va_at.kept hT (ho9 _ (va_at.lt hT))
  have n_b_c0 : b ≠ c0 := by have z := va_at.lt hH; dsimp only at z; omega
  have hH := va_at.kept hH (ho9 _ (va_at.lt hH))
  have hbs : sz ≤ b := by omega
  have hcs : sz ≤ c0 := by omega
  refine x_putF F hnm hK hT rfl i_ST t_ST p_ST n_ST 1 (by decide) k61 rfl rfl rfl rfl rfl (Nat.le_of_ble_eq_true rfl) hS (Or.inl rfl) d_ST_init_24 (fun H10 locs hT hz10 ho10 hS => ?_)
  have hT : va_at G.1 x_cl (a, .inr (3, [.ref b, .ref c0])) H10 := hT
  have hH := va_at.kept hH (ho10 _ (Ne.symm n_a_b))
  have hN := va_at.kept hN (ho10 _ (Ne.symm n_a_c0))
  refine lv_aload_n F.1 F.2.1 d_ST_init_27 rfl (lv_at hl 0 rfl) ?_
  refine x_get F hK hT rfl i_ST 1 (by decide) k61 rfl rfl d_ST_init_28 ?_
  refine lv_bipush (v := 40) F.1 F.2.1 d_ST_init_31 (by decide) ?_
  refine x_wr (x_S (n := 2) (As := [.ref c0, .int 40]) F (c_AR_fillI l G c0 6 (fun _ => 0) 40 (by decide)) ok_AR_fillI k57 ⟨Nat.le_of_ble_eq_true rfl, Nat.le_of_ble_eq_true rfl⟩ rfl rfl hK (hN) rfl hl.1 rfl (Nat.le_of_ble_eq_true rfl) d_ST_init_33 ⟨Nat.le_of_ble_eq_true rfl, Nat.le_of_ble_eq_true rfl⟩) hS (fun q h => by rw [h]; exact Or.inr hcs) (fun _ _ h => h.2.2.mono (fun q h => by rw [h]; exact Or.inr hcs)) (fun v H11 locs hpost hS => ?_)
  obtain ⟨rfl, hN, ho⟩ := hpost
  have hT := x_keep hT ho n_a_c0
  have hH := x_keep hH ho n_b_c0
  refine hret _ _ _ _ _ _ d_ST_init_36 ⟨rfl, ⟨b, c0, hbs, hcs, hT, x_az.cg hH (fun j _ => ?_), hN, n_a_b, n_a_c0, n_b_c0⟩, hS.1, fun q h1 h2 => hS.2.1 q h1 (fun z => z.elim h2 (fun z => by omega))⟩ hS.2.2 (Nat.le_of_ble_eq_true rfl) (Nat.le_of_ble_eq_true rfl)
  exact x_b0 j (fun _ => rfl)
end
section
/-! ===== Layer ===== -/
/-- what the layer from f to g says of p -/
def mk (f g : Nat → Int64) (p : Nat) : Int64 := if g p = f p then wNON else if g p = wABS then (if g (pa p) = wDIR then wGON else wNON) else g p
theorem c_LY_changeAt (l : Launch) (G : x_G) (a1 b1 a2 b2 : Nat) (f g : Nat → Int64) (i : Nat) (hi : i < 125) : Met l y_LY_changeAt (x_ws y_LY_changeAt b_LY_changeAt 5 (some .long)) (x_rm 2 0 0) (x_P G [.int (nI i), .ref a1, .ref a2] (fun H => TR G a1 b1 f H ∧ TR G a2 b2 g H)) (k2_QcV (.long (mk f g i))) 0 0 (fun _ => False) := by
  refine x_mL (by decide +kernel) (Nat.le_of_ble_eq_true rfl) (fun p e s m args below meth c F hK hP ls hl Q hret => ?_)
  have hl : lv_has ls 5 [(0, .int (nI i)), (1, .ref a1), (2, .ref a2)] := hl
  obtain ⟨h1, h2⟩ := hP
  have hT1 := h1.1
  have hT2 := h2.1
  have hpi := pa_lt i hi
  refine lv_aload_n F.1 F.2.1 d_LY_changeAt_0 rfl (lv_at hl 2 rfl) ?_
  refine lv_iload_n F.1 F.2.1 d_LY_changeAt_1 rfl (lv_at hl 0 rfl) ?_
  refine x_rd (x_V (n := 1) (As := [.int (nI i)]) F (c_TR_at l G a2 b2 g i hi) ok_TR_at k312 ⟨Nat.le_of_ble_eq_true rfl, Nat.le_of_ble_eq_true rfl⟩ rfl rfl hK (x_rcv hK hT2 rfl) (h2) rfl hl.1 rfl (Nat.le_of_ble_eq_true rfl) d_LY_changeAt_2 ⟨Nat.le_of_ble_eq_true rfl, Nat.le_of_ble_eq_true rfl⟩) ?_
  refine lv_lstore_n (lv' := [(3, .long (g i)), (0, .int (nI i)), (1, .ref a1), (2, .ref a2)]) F.1 F.2.1 d_LY_changeAt_5 rfl hl (by decide) rfl (fun ls hl => ?_)
  refine lv_lload_n F.1 F.2.1 d_LY_changeAt_6 rfl (lv_at hl 0 rfl) ?_
  refine lv_aload_n F.1 F.2.1 d_LY_changeAt_7 rfl (lv_at hl 2 rfl) ?_
  refine lv_iload_n F.1 F.2.1 d_LY_changeAt_8 rfl (lv_at hl 1 rfl) ?_
  refine x_rd (x_V (n := 1) (As := [.int (nI i)]) F (c_TR_at l G a1 b1 f i hi) ok_TR_at k312 ⟨Nat.le_of_ble_eq_true rfl, Nat.le_of_ble_eq_true rfl⟩ rfl rfl hK (x_rcv hK hT1 rfl) (h1) rfl hl.1 rfl (Nat.le_of_ble_eq_true rfl) d_LY_changeAt_9 ⟨Nat.le_of_ble_eq_true rfl, Nat.le_of_ble_eq_true rfl⟩) ?_
  refine x_lne (tgt := 20) F d_LY_changeAt_12 d_LY_changeAt_13 (by decide) (fun c12 => ?_) (fun c12 => ?_)
  · refine lv_lload_n F.1 F.2.1 d_LY_changeAt_20 rfl (lv_at hl 0 rfl) ?_
    refine x_cst F k317 d_LY_changeAt_21 ?_
    refine x_leq (tgt := 30) F d_LY_changeAt_24 d_LY_changeAt_25 (by decide) (fun c24 => ?_) (fun c24 => ?_)
    · refine lv_aload_n F.1 F.2.1 d_LY_changeAt_30 rfl (lv_at hl 3 rfl) ?_
      refine lv_iload_n F.1 F.2.1 d_LY_changeAt_31 rfl (lv_at hl 1 rfl) ?_
      refine x_rd (x_S (n := 1) (As := [.int (nI i)]) F (c_PA_parent l G (nI i)) ok_PA_parent k318 ⟨Nat.le_of_ble_eq_true rfl, Nat.le_of_ble_eq_true rfl⟩ rfl rfl hK (trivial) rfl hl.1 rfl (Nat.le_of_ble_eq_true rfl) d_LY_changeAt_32 ⟨Nat.le_of_ble_eq_true rfl, Nat.le_of_ble_eq_true rfl⟩) ?_
      rw [pj_parent_n i hi]
      refine x_rd (x_V (n := 1) (As := [.int (nI (pa i))]) F (c_TR_at l G a2 b2 g (pa i) hpi) ok_TR_at k312 ⟨Nat.le_of_ble_eq_true rfl, Nat.le_of_ble_eq_true rfl⟩ rfl rfl hK (x_rcv hK hT2 rfl) (h2) rfl hl.1 rfl (Nat.le_of_ble_eq_true rfl) d_LY_changeAt_35 ⟨Nat.le_of_ble_eq_true rfl, Nat.le_of_ble_eq_true rfl⟩) ?_
      refine x_cst F k319 d_LY_changeAt_38 ?_
      refine x_lne (tgt := 51) F d_LY_changeAt_41 d_LY_changeAt_42 (by decide) (fun c41 => ?_) (fun c41 => ?_)
      · refine x_cst F k316 d_LY_changeAt_51 ?_
        exact hret _ _ _ d_LY_changeAt_54 (by unfold mk; rw [if_neg c12, if_pos c24, if_neg c41])
      · refine x_cst F k320 d_LY_changeAt_45 ?_
        refine lv_goto (tgt := 54) F.1 F.2.1 d_LY_changeAt_48 (by decide) ?_
        exact hret _ _ _ d_LY_changeAt_54 (by unfold mk; rw [if_neg c12, if_pos c24, if_pos c41])
    · refine lv_lload_n F.1 F.2.1 d_LY_changeAt_28 rfl (lv_at hl 0 rfl) ?_
      exact hret _ _ _ d_LY_changeAt_29 (by unfold mk; rw [if_neg c12, if_neg c24])
  · refine x_cst F k316 d_LY_changeAt_16 ?_
    exact hret _ _ _ d_LY_changeAt_19 (by unfold mk; rw [if_pos c12])
/-- the paths that a layer has an entry for, of those below n -/
def eL (f g : Nat → Int64) (n : Nat) : List Nat := (List.range n).filter fun p => decide (p ≠ 0) && !decide (mk f g p = wNON)
theorem eL_s (f g : Nat → Int64) {i : Nat} (h0 : i ≠ 0) (h : mk f g i ≠ wNON) : eL f g (i + 1) = eL f g i ++ [i] := by
  unfold eL
  rw [List.range_succ, List.filter_append, List.filter_cons_of_pos (by simp [h0, h]), List.filter_nil]
theorem eL_n (f g : Nat → Int64) {i : Nat} (h : mk f g i = wNON) : eL f g (i + 1) = eL f g i := by
  unfold eL
  rw [List.range_succ, List.filter_append, List.filter_cons_of_neg (by simp [h]), List.filter_nil, List.append_nil]
theorem eL_0 (f g : Nat → Int64) : eL f g 1 = [] := by
  unfold eL
  rfl
theorem eL_pre (f g : Nat → Int64) {i j : Nat} (h : i ≤ j) : ∃ t, eL f g j = eL f g i ++ t := by
  induction j with
  | zero => exact ⟨[], by rw [show i = 0 by omega, List.append_nil]⟩
  | succ j ih =>
    rcases Nat.lt_or_ge i (j + 1) with q | q
    · obtain ⟨t, ht⟩ := ih (by omega)
      unfold eL at ht ⊢
      rw [List.range_succ, List.filter_append, ht, List.append_assoc]
      exact ⟨_, rfl⟩
    · exact ⟨[], by rw [show i = j + 1 by omega, List.append_nil]⟩
theorem eL_len (f g : Nat → Int64) (i : Nat) : (eL f g i).length ≤ i := by
  unfold eL
  exact Nat.le_trans (List.length_filter_le _ _) (by rw [List.length_range]; exact Nat.le_refl _)
theorem eL_len1 (f g : Nat → Int64) {i : Nat} (h : 1 ≤ i) : (eL f g i).length + 1 ≤ i := by
  induction i with
  | zero => omega
  | succ i ih =>
    rcases Nat.eq_zero_or_pos i with rfl | q
    · rw [eL_0]; exact Nat.le_refl _
    · have := ih q
      by_cases hm : mk f g i = wNON
      · rw [eL_n f g hm]; omega
      · rw [eL_s f g (by omega) hm, List.length_append]; simp; omega
/-- a layer at a: its paths at b, its marks at c0 -/
def LY (G : x_G) (a b c0 : Nat) (L : List Nat) (w : Nat → Int64) (H : Heap) : Prop := va_at G.1 x_cl (a, .inr (2, [.ref b, .ref c0])) H ∧ x_ai G b L.length (fun k => nI (L.getD k 0)) H ∧ x_al G c0 L.length (fun k => w (L.getD k 0)) H ∧ a ≠ b ∧ a ≠ c0 ∧ b ≠ c0
def pFi (L : List Nat) : Nat → Int32 := fun k => if k < L.length then nI (L.getD k 0) else 0
def pFl (L : List Nat) (w : Nat → Int64) : Nat → Int64 := fun k => if k < L.length then w (L.getD k 0) else 0
theorem getD_app (L : List Nat) (i k : Nat) : (L ++ [i]).getD k 0 = if k < L.length then L.getD k 0 else if k = L.length then i else 0 := by
  by_cases h : k < L.length
  · rw [if_pos h, List.getD_eq_getElem?_getD, List.getElem?_append_left h, ← List.getD_eq_getElem?_getD]
  · rw [if_neg h, List.getD_eq_getElem?_getD, List.getElem?_append_right (by omega)]
    by_cases h2 : k = L.length
    · rw [if_pos h2, h2, Nat.sub_self]; rfl
    · rw [if_neg h2]
      have : 0 < k - L.length := by omega
      cases hk : k - L.length with
      | zero => omega
      | succ d => rfl
theorem pFi_s (L : List Nat) (i : Nat) : upd (pFi L) L.length (nI i) = pFi (L ++ [i]) := funext fun k => by
  unfold upd pFi
  rw [getD_app, List.length_append]
  by_cases h : k = L.length
  · rw [if_pos h, if_pos (by simp; omega), if_neg (by omega), if_pos h]
  · rw [if_neg h]
    by_cases h2 : k < L.length
    · rw [if_pos h2, if_pos (by simp; omega), if_pos h2]
    · rw [if_neg h2, if_neg (by simp; omega)]
theorem pFl_s (L : List Nat) (w : Nat → Int64) (i : Nat) : vp_updL (pFl L w) L.length (w i) = pFl (L ++ [i]) w := funext fun k => by
  unfold vp_updL pFl
  rw [getD_app, List.length_append]
  by_cases h : k = L.length
  · rw [if_pos h, if_pos (by simp; omega), if_neg (by omega), if_pos h]
  · rw [if_neg h]
    by_cases h2 : k < L.length
    · rw [if_pos h2, if_pos (by simp; omega), if_pos h2]
    · rw [if_neg h2, if_neg (by simp; omega)]
theorem c_LY_init (l : Launch) (G : x_G) (a a1 b1 a2 b2 : Nat) (f g : Nat → Int64) (sz : Nat) (n1 : a1 ≠ a) (n2 : a2 ≠ a) (n3 : b1 ≠ a) (n4 : b2 ≠ a) : Met l y_LY_init (x_ws y_LY_init b_LY_init 8 none) (x_rm 3 2 248) (x_P G [.ref a, .ref a1, .ref a2] (fun H => H.size = sz ∧ va_at G.1 x_cl (a, .inr (2, [.null, .null])) H ∧ TR G a1 b1 f H ∧ TR G a2 b2 g H)) (x_Q (fun r H H1 => r = none ∧ (∃ b c0, sz ≤ b ∧ sz ≤ c0 ∧ LY G a b c0 (eL f g 125) (mk f g) H1) ∧ x_off (fun q => q = a) H H1)) 2 248 (fun q => q = a ∨ sz ≤ q) := by
  refine x_wV (by decide +kernel) (Nat.le_of_ble_eq_true rfl) (fun p e s m args below meth c F hnm hK hP ls hl Q hret => ?_)
  have hl : lv_has ls 8 [(0, .ref a), (1, .ref a1), (2, .ref a2)] := hl
  obtain ⟨hsz, hT, h1, h2⟩ := hP
  have hS : va_S (fun q => q = a ∨ sz ≤ q) s.heap s.heap [] := va_S.rf
  have hA1 : a1 < sz := by rw [← hsz]; exact h1.1.lt
  have hA2 : a2 < sz := by rw [← hsz]; exact h2.1.lt
  have hB1 : b1 < sz := by rw [← hsz]; exact h1.2.1.lt
  have hB2 : b2 < sz := by rw [← hsz]; exact h2.2.1.lt
  have hA : a < sz := by rw [← hsz]; exact hT.lt
  have kp : ∀ {H : Heap} {locs : List Loc}, va_S (fun q => q = a ∨ sz ≤ q) s.heap H locs → TR G a1 b1 f H ∧ TR G a2 b2 g H := fun hS => ⟨⟨x_keep h1.1 hS.off (fun z => z.elim n1 (fun z => by omega)), x_keep h1.2.1 hS.off (fun z => z.elim n3 (fun z => by omega)), h1.2.2⟩, x_keep h2.1 hS.off (fun z => z.elim n2 (fun z => by omega)), x_keep h2.2.1 hS.off (fun z => z.elim n4 (fun z => by omega)), h2.2.2⟩
  have loop2 : ∀ (b c0 : Nat), sz ≤ b → sz ≤ c0 → b ≠ c0 → ∀ (d i : Nat), 1 ≤ i → i + d = 125 → ∀ (H : Heap) (locs : List Loc), va_at G.1 x_cl (a, .inr (2, [.ref b, .ref c0])) H → x_ai G b (eL f g 125).length (pFi (eL f g i)) H → x_al G c0 (eL f g 125).length (pFl (eL f g i) (mk f g)) H → va_S (fun q => q = a ∨ sz ≤ q) s.heap H locs → ∀ ls : Array Slot, lv_has ls 8 [(5, .int (nI i)), (4, .int (nI (eL f g i).length)), (3, .int (nI (eL f g 125).length)), (0, .ref a), (1, .ref a1), (2, .ref a2)] → W p l e (x_rm 3 2 248) s m args below meth c H locs 2 248 Q (F0 m 59 ls []) := by
    intro b c0 hbs hcs hbc d
    have hab : a ≠ b := by omega
    have hac : a ≠ c0 := by omega
    have hE := eL_len f g 125
    have fin : ∀ (i : Nat), i ≤ 125 → (eL f g 125).length ≤ (eL f g i).length → ∀ (H : Heap) (locs : List Loc) (ls : Array Slot), va_at G.1 x_cl (a, .inr (2, [.ref b, .ref c0])) H → x_ai G b (eL f g 125).length (pFi (eL f g i)) H → x_al G c0 (eL f g 125).length (pFl (eL f g i) (mk f g)) H → va_S (fun q => q = a ∨ sz ≤ q) s.heap H locs → W p l e (x_rm 3 2 248) s m args below meth c H locs 2 248 Q (F0 m 117 ls []) := by
      intro i hi hle H locs ls hT hN hM hS
      have e : eL f g i = eL f g 125 := by
        obtain ⟨t, ht⟩ := eL_pre f g hi
        have : t = [] := by
          cases t with
          | nil => rfl
          | cons x t => rw [ht, List.length_append, List.length_cons] at hle; omega
        rw [ht, this, List.append_nil]
      rw [e] at hN hM
      exact hret _ _ _ _ _ _ d_LY_init_117 ⟨rfl, ⟨b, c0, hbs, hcs, hT, x_ai.cg hN (fun j hj => if_pos hj), x_al.cg hM (fun j hj => if_pos hj), hab, hac, hbc⟩, hS.1, fun q h1 h2 => hS.2.1 q h1 (fun z => z.elim h2 (fun z => by omega))⟩ hS.2.2 (Nat.le_refl _) (Nat.le_refl _)
    induction d with
    | zero =>
      intro i hi1 hi H locs hT hN hM hS ls hl
      obtain rfl : i = 125 := by omega
      refine lv_iload F.1 F.2.1 d_LY_init_59 (lv_at hl 0 rfl) ?_
      refine lv_bipush (v := 125) F.1 F.2.1 d_LY_init_61 (by decide) ?_
      refine lv_icmp_ge (tgt := 117) F.1 F.2.1 d_LY_init_63 (by decide) (fun _ => ?_) (fun zq => absurd (pN_le (a := 125) (b := 125) rfl rfl (by omega) (by omega) (by omega)) zq)
      exact fin 125 (Nat.le_refl _) (Nat.le_refl _) _ _ _ hT hN hM hS
    | succ d ih =>
      intro i hi1 hi H locs hT hN hM hS ls hl
      have hi125 : i < 125 := by omega
      have hLi := eL_len f g i
      refine lv_iload F.1 F.2.1 d_LY_init_59 (lv_at hl 0 rfl) ?_
      refine lv_bipush (v := 125) F.1 F.2.1 d_LY_init_61 (by decide) ?_
      refine lv_icmp_ge (tgt := 117) F.1 F.2.1 d_LY_init_63 (by decide) (fun zq => absurd zq (pN_nle (a := 125) (b := i) rfl rfl (by omega) (by omega) (by omega))) (fun _ => ?_)
      refine lv_iload F.1 F.2.1 d_LY_init_66 (lv_at hl 1 rfl) ?_
      refine lv_iload_n F.1 F.2.1 d_LY_init_68 rfl (lv_at hl 2 rfl) ?_
      refine lv_icmp_ge (tgt := 117) F.1 F.2.1 d_LY_init_69 (by decide) (fun c69 => ?_) (fun c69 => ?_)
      · have c69 := (pN_leI (a := ((eL f g 125).length)) (b := ((eL f g i).length)) rfl rfl (by omega) (by omega)).mp c69
        exact fin i (by omega) c69 _ _ _ hT hN hM hS
      · have c69 := mt (pN_leI (a := ((eL f g 125).length)) (b := ((eL f g i).length)) rfl rfl (by omega) (by omega)).mpr c69
        refine lv_iload F.1 F.2.1 d_LY_init_72 (lv_at hl 0 rfl) ?_
        refine lv_aload_n F.1 F.2.1 d_LY_init_74 rfl (lv_at hl 4 rfl) ?_
        refine lv_aload_n F.1 F.2.1 d_LY_init_75 rfl (lv_at hl 5 rfl) ?_
        refine x_rd (x_S (n := 3) (As := [.int (nI i), .ref a1, .ref a2]) F (c_LY_changeAt l G a1 b1 a2 b2 f g i hi125) ok_LY_changeAt k309 ⟨Nat.le_of_ble_eq_true rfl, Nat.le_of_ble_eq_true rfl⟩ rfl rfl hK (kp hS) rfl hl.1 rfl (Nat.le_of_ble_eq_true rfl) d_LY_init_76 ⟨Nat.le_of_ble_eq_true rfl, Nat.le_of_ble_eq_true rfl⟩) ?_
        refine lv_lstore (lv' := [(6, .long (mk f g i)), (5, .int (nI i)), (4, .int (nI (eL f g i).length)), (3, .int (nI (eL f g 125).length)), (0, .ref a), (1, .ref a1), (2, .ref a2)]) F.1 F.2.1 d_LY_init_79 hl (by decide) rfl (fun ls hl => ?_)
        refine lv_lload F.1 F.2.1 d_LY_init_81 (lv_at hl 0 rfl) ?_
        refine x_cst F k316 d_LY_init_83 ?_
        refine x_leq (tgt := 111) F d_LY_init_86 d_LY_init_87 (by decide) (fun c86 => ?_) (fun c86 => ?_)
        · refine lv_iinc (v := (nI (i + 1))) (lv' := [(5, .int (nI (i + 1))), (6, .long (mk f g i)), (4, .int (nI (eL f g i).length)), (3, .int (nI (eL f g 125).length)), (0, .ref a), (1, .ref a1), (2, .ref a2)]) F.1 F.2.1 d_LY_init_111 hl (k := 1) rfl (nI_1 i) (by decide) rfl (fun ls hl => ?_)
          refine lv_goto (tgt := 59) F.1 F.2.1 d_LY_init_114 (by decide) ?_
          exact ih (i + 1) (by omega) (by omega) _ _ hT (by rw [eL_n f g c86]; exact hN) (by rw [eL_n f g c86]; exact hM) hS ls (by rw [eL_n f g c86]; exact lv_sub hl [0, 2, 3, 4, 5, 6] rfl)
        · refine lv_aload_n F.1 F.2.1 d_LY_init_90 rfl (lv_at hl 4 rfl) ?_
          refine x_get F hK hT rfl i_LY 0 (by decide) k321 rfl rfl d_LY_init_91 ?_
          refine lv_iload F.1 F.2.1 d_LY_init_94 (lv_at hl 2 rfl) ?_
          refine lv_iload F.1 F.2.1 d_LY_init_96 (lv_at hl 1 rfl) ?_
          refine x_iastN F hK hN (by omega) (by omega) hS (Or.inr hbs) d_LY_init_98 (fun H1 locs hN hz1 ho1 hS => ?_)
          have hT := va_at.kept hT (ho1 _ hab)
          have hM := va_at.kept hM (ho1 _ (Ne.symm hbc))
          refine lv_aload_n F.1 F.2.1 d_LY_init_99 rfl (lv_at hl 4 rfl) ?_
          refine x_get F hK hT rfl i_LY 1 (by decide) k323 rfl rfl d_LY_init_100 ?_
          refine lv_iload F.1 F.2.1 d_LY_init_103 (lv_at hl 2 rfl) ?_
          refine lv_lload F.1 F.2.1 d_LY_init_105 (lv_at hl 0 rfl) ?_
          refine x_lastN F hK hM (by omega) (by omega) hS (Or.inr hcs) d_LY_init_107 (fun H2 locs hM hz2 ho2 hS => ?_)
          have hT := va_at.kept hT (ho2 _ hac)
          have hN := va_at.kept hN (ho2 _ hbc)
          refine lv_iinc (v := (nI ((eL f g i).length + 1))) (lv' := [(4, .int (nI ((eL f g i).length + 1))), (6, .long (mk f g i)), (5, .int (nI i)), (3, .int (nI (eL f g 125).length)), (0, .ref a), (1, .ref a1), (2, .ref a2)]) F.1 F.2.1 d_LY_init_108 hl (k := 2) rfl (nI_1 ((eL f g i).length)) (by decide) rfl (fun ls hl => ?_)
          refine lv_iinc (v := (nI (i + 1))) (lv' := [(5, .int (nI (i + 1))), (4, .int (nI ((eL f g i).length + 1))), (6, .long (mk f g i)), (3, .int (nI (eL f g 125).length)), (0, .ref a), (1, .ref a1), (2, .ref a2)]) F.1 F.2.1 d_LY_init_111 hl (k := 2) rfl (nI_1 i) (by decide) rfl (fun ls hl => ?_)
          refine lv_goto (tgt := 59) F.1 F.2.1 d_LY_init_114 (by decide) ?_
          exact ih (i + 1) (by omega) (by omega) _ _ hT (by rw [eL_s f g (by omega) c86, ← pFi_s]; exact hN) (by rw [eL_s f g (by omega) c86, ← pFl_s]; exact hM) hS ls (by rw [eL_s f g (by omega) c86, List.length_append]; exact lv_sub hl [0, 1, 3, 4, 5, 6] rfl)
  have loop1 : ∀ (d i : Nat), 1 ≤ i → i + d = 125 → ∀ ls : Array Slot, lv_has ls 8 [(4, .int (nI i)), (3, .int (nI (eL f g i).length)), (0, .ref a), (1, .ref a1), (2, .ref a2)] → W p l e (x_rm 3 2 248) s m args below meth c s.heap [] 0 0 Q (F0 m 9 ls []) := by
    intro d
    induction d with
    | zero =>
      intro i hi1 hi ls hl
      obtain rfl : i = 125 := by omega
      have hE := eL_len1 f g (i := 125) (by decide)
      generalize hgl : (eL f g 125).length = gl at hE hl
      refine lv_iload F.1 F.2.1 d_LY_init_9 (lv_at hl 0 rfl) ?_
      refine lv_bipush (v := 125) F.1 F.2.1 d_LY_init_11 (by decide) ?_
      refine lv_icmp_ge (tgt := 39) F.1 F.2.1 d_LY_init_13 (by decide) (fun _ => ?_) (fun zq => absurd (pN_le (a := 125) (b := 125) rfl rfl (by omega) (by omega) (by omega)) zq)
      refine lv_aload_n F.1 F.2.1 d_LY_init_39 rfl (lv_at hl 2 rfl) ?_
      refine lv_iload_n F.1 F.2.1 d_LY_init_40 rfl (lv_at hl 1 rfl) ?_
      refine x_newaI (N := gl) F hK (by omega) (show 0 + 1 ≤ 2 by omega) (show 0 + gl ≤ 248 by omega) hS d_LY_init_41 (fun b H3 hb hN hz3 ho3 hS => ?_)
      have n_a_b : a ≠ b := by have z := va_at.lt hT; dsimp only at z; omega
      have hT := va_at.kept hT (ho3 _ (va_at.lt hT))
      have hbs : sz ≤ b := by omega
      refine x_putF F hnm hK hT rfl i_LY t_LY p_LY n_LY 0 (by decide) k321 rfl rfl rfl rfl rfl (Nat.le_of_ble_eq_true rfl) hS (Or.inl rfl) d_LY_init_43 (fun H4 locs hT hz4 ho4 hS => ?_)
      have hT : va_at G.1 x_cl (a, .inr (2, [.ref b, .null])) H4 := hT
      have hN := va_at.kept hN (ho4 _ (Ne.symm n_a_b))
      refine lv_aload_n F.1 F.2.1 d_LY_init_46 rfl (lv_at hl 2 rfl) ?_
      refine lv_iload_n F.1 F.2.1 d_LY_init_47 rfl (lv_at hl 1 rfl) ?_
      refine x_newaJ (N := gl) F hK (by omega) (show (0 + 1) + 1 ≤ 2 by omega) (show (0 + gl) + gl ≤ 248 by omega) hS d_LY_init_48 (fun c0 H5 hc0 hM hz5 ho5 hS => ?_)
      have n_a_c0 : a ≠ c0 := by have z := va_at.lt hT; dsimp only at z; omega
      have hT := va_at.kept hT (ho5 _ (va_at.lt hT))
      have n_b_c0 : b ≠ c0 := by have z := va_at.lt hN; dsimp only at z; omega
      have hN := va_at.kept hN (ho5 _ (va_at.lt hN))
      have hcs : sz ≤ c0 := by omega
      refine x_putF F hnm hK hT rfl i_LY t_LY p_LY n_LY 1 (by decide) k323 rfl rfl rfl rfl rfl (Nat.le_of_ble_eq_true rfl) hS (Or.inl rfl) d_LY_init_50 (fun H6 locs hT hz6 ho6 hS => ?_)
      have hT : va_at G.1 x_cl (a, .inr (2, [.ref b, .ref c0])) H6 := hT
      have hN := va_at.kept hN (ho6 _ (Ne.symm n_a_b))
      have hM := va_at.kept hM (ho6 _ (Ne.symm n_a_c0))
      refine lv_iconst (v := 0) F.1 F.2.1 d_LY_init_53 (by decide) ?_
      refine lv_istore (lv' := [(4, .int 0), (3, .int (nI gl)), (0, .ref a), (1, .ref a1), (2, .ref a2)]) F.1 F.2.1 d_LY_init_54 hl (by decide) rfl (fun ls hl => ?_)
      refine lv_iconst (v := 1) F.1 F.2.1 d_LY_init_56 (by decide) ?_
      refine lv_istore (lv' := [(5, .int 1), (4, .int 0), (3, .int (nI gl)), (0, .ref a), (1, .ref a1), (2, .ref a2)]) F.1 F.2.1 d_LY_init_57 hl (by decide) rfl (fun ls hl => ?_)
      refine W.widen (k := 2) (n := 248) (by omega) (by omega) ?_
      refine loop2 b c0 hbs hcs n_b_c0 124 1 (by omega) (by omega) _ _ hT ?_ ?_ hS ls ?_
      · rw [hgl, eL_0]; exact x_ai.cg hN (fun j _ => rfl)
      · rw [hgl, eL_0]; exact x_al.cg hM (fun j _ => rfl)
      · rw [hgl, eL_0]; exact lv_sub hl [0, 1, 2, 3, 4, 5] rfl
    | succ d ih =>
      intro i hi1 hi ls hl
      have hi125 : i < 125 := by omega
      refine lv_iload F.1 F.2.1 d_LY_init_9 (lv_at hl 0 rfl) ?_
      refine lv_bipush (v := 125) F.1 F.2.1 d_LY_init_11 (by decide) ?_
      refine lv_icmp_ge (tgt := 39) F.1 F.2.1 d_LY_init_13 (by decide) (fun zq => absurd zq (pN_nle (a := 125) (b := i) rfl rfl (by omega) (by omega) (by omega))) (fun _ => ?_)
      refine lv_iload F.1 F.2.1 d_LY_init_16 (lv_at hl 0 rfl) ?_
      refine lv_aload_n F.1 F.2.1 d_LY_init_18 rfl (lv_at hl 3 rfl) ?_
      refine lv_aload_n F.1 F.2.1 d_LY_init_19 rfl (lv_at hl 4 rfl) ?_
      refine x_rd (x_S (n := 3) (As := [.int (nI i), .ref a1, .ref a2]) F (c_LY_changeAt l G a1 b1 a2 b2 f g i hi125) ok_LY_changeAt k309 ⟨Nat.le_of_ble_eq_true rfl, Nat.le_of_ble_eq_true rfl⟩ rfl rfl hK (⟨h1, h2⟩) rfl hl.1 rfl (Nat.le_of_ble_eq_true rfl) d_LY_init_20 ⟨Nat.le_of_ble_eq_true rfl, Nat.le_of_ble_eq_true rfl⟩) ?_
      refine x_cst F k316 d_LY_init_23 ?_
      refine x_leq (tgt := 33) F d_LY_init_26 d_LY_init_27 (by decide) (fun c26 => ?_) (fun c26 => ?_)
      · refine lv_iinc (v := (nI (i + 1))) (lv' := [(4, .int (nI (i + 1))), (3, .int (nI (eL f g i).length)), (0, .ref a), (1, .ref a1), (2, .ref a2)]) F.1 F.2.1 d_LY_init_33 hl (k := 0) rfl (nI_1 i) (by decide) rfl (fun ls hl => ?_)
        refine lv_goto (tgt := 9) F.1 F.2.1 d_LY_init_36 (by decide) ?_
        exact ih (i + 1) (by omega) (by omega) ls (by rw [eL_n f g c26]; exact hl)
      · refine lv_iinc (v := (nI ((eL f g i).length + 1))) (lv' := [(3, .int (nI ((eL f g i).length + 1))), (4, .int (nI i)), (0, .ref a), (1, .ref a1), (2, .ref a2)]) F.1 F.2.1 d_LY_init_30 hl (k := 1) rfl (nI_1 ((eL f g i).length)) (by decide) rfl (fun ls hl => ?_)
        refine lv_iinc (v := (nI (i + 1))) (lv' := [(4, .int (nI (i + 1))), (3, .int (nI ((eL f g i).length + 1))), (0, .ref a), (1, .ref a1), (2, .ref a2)]) F.1 F.2.1 d_LY_init_33 hl (k := 1) rfl (nI_1 i) (by decide) rfl (fun ls hl => ?_)
        refine lv_goto (tgt := 9) F.1 F.2.1 d_LY_init_36 (by decide) ?_
        exact ih (i + 1) (by omega) (by omega) ls (by rw [eL_s f g (by omega) c26, List.length_append]; exact hl)
  refine lv_aload_n F.1 F.2.1 d_LY_init_0 rfl (lv_at hl 0 rfl) ?_
  refine x_oi F k308 hl.1 d_LY_init_1 (by decide) (by decide) ?_
  refine lv_iconst (v := 0) F.1 F.2.1 d_LY_init_4 (by decide) ?_
  refine lv_istore_n (lv' := [(3, .int 0), (0, .ref a), (1, .ref a1), (2, .ref a2)]) F.1 F.2.1 d_LY_init_5 rfl hl (by decide) rfl (fun ls hl => ?_)
  refine lv_iconst (v := 1) F.1 F.2.1 d_LY_init_6 (by decide) ?_
  refine lv_istore (lv' := [(4, .int 1), (3, .int 0), (0, .ref a), (1, .ref a1), (2, .ref a2)]) F.1 F.2.1 d_LY_init_7 hl (by decide) rfl (fun ls hl => ?_)
  exact loop1 124 1 (by omega) (by omega) ls (by rw [eL_0]; exact hl)
theorem c_LY_size (l : Launch) (G : x_G) (a b c0 : Nat) (L : List Nat) (w : Nat → Int64) : Met l y_LY_size (x_ws y_LY_size b_LY_size 1 (some .int)) (x_rm 0 0 0) (x_P G [.ref a] (LY G a b c0 L w)) (k2_QcV (.int (nI L.length))) 0 0 (fun _ => False) := by
  refine x_mI (by decide +kernel) (Nat.le_of_ble_eq_true rfl) (fun p e s m args below meth c F hK hP ls hl Q hret => ?_)
  have hl : lv_has ls 1 [(0, .ref a)] := hl
  obtain ⟨hT, hN, hM, -⟩ := hP
  refine lv_aload_n F.1 F.2.1 d_LY_size_0 rfl (lv_at hl 0 rfl) ?_
  refine x_get F hK hT rfl i_LY 0 (by decide) k321 rfl rfl d_LY_size_1 ?_
  refine x_alen F hK hN 0 rfl d_LY_size_4 ?_
  exact hret _ _ _ d_LY_size_5 rfl
def lyEq (L : List Nat) (w : Nat → Int64) (L2 : List Nat) (w2 : Nat → Int64) : Bool := decide (L.length = L2.length) && (List.range L.length).all fun k => decide (nI (L.getD k 0) = nI (L2.getD k 0)) && decide (w (L.getD k 0) = w2 (L2.getD k 0))
theorem lyEq_t {L L2 : List Nat} {w w2 : Nat → Int64} (h1 : L.length = L2.length) (h2 : ∀ k, k < L.length → nI (L.getD k 0) = nI (L2.getD k 0) ∧ w (L.getD k 0) = w2 (L2.getD k 0)) : lyEq L w L2 w2 = true := by
  unfold lyEq
  rw [decide_eq_true h1, Bool.true_and, List.all_eq_true]
  intro k hk
  obtain ⟨q1, q2⟩ := h2 k (List.mem_range.mp hk)
  rw [decide_eq_true q1, decide_eq_true q2]; rfl
theorem lyEq_of {L L2 : List Nat} {w w2 : Nat → Int64} (h : lyEq L w L2 w2 = true) : L.length = L2.length ∧ ∀ k, k < L.length → nI (L.getD k 0) = nI (L2.getD k 0) ∧ w (L.getD k 0) = w2 (L2.getD k 0) := by
  unfold lyEq at h
  rw [Bool.and_eq_true, List.all_eq_true] at h
  refine ⟨of_decide_eq_true h.1, fun k hk => ?_⟩
  have := h.2 k (List.mem_range.mpr hk)
  rw [Bool.and_eq_true] at this
  exact ⟨of_decide_eq_true this.1, of_decide_eq_true this.2⟩
theorem lyEq_f {L L2 : List Nat} {w w2 : Nat → Int64} (h : ¬ (L.length = L2.length ∧ ∀ k, k < L.length → nI (L.getD k 0) = nI (L2.getD k 0) ∧ w (L.getD k 0) = w2 (L2.getD k 0))) : lyEq L w L2 w2 = false := by
  cases hh : lyEq L w L2 w2 with
  | false => rfl
  | true => exact absurd (lyEq_of hh) h
theorem c_LY_sameAs (l : Launch) (G : x_G) (a b c0 a2 b2 c2 : Nat) (L L2 : List Nat) (w w2 : Nat → Int64) (hL : L.length < 1000) (hL2 : L2.length < 1000) : Met l y_LY_sameAs (x_ws y_LY_sameAs b_LY_sameAs 3 (some .boolean)) (x_rm 0 0 0) (x_P G [.ref a, .ref a2] (fun H => LY G a b c0 L w H ∧ LY G a2 b2 c2 L2 w2 H)) (k2_QcV (.int (x_b (lyEq L w L2 w2)))) 0 0 (fun _ => False) := by
  refine x_mZ (by decide +kernel) (Nat.le_of_ble_eq_true rfl) (fun p e s m args below meth c F hK hP ls hl Q hret => ?_)
  have hl : lv_has ls 3 [(0, .ref a), (1, .ref a2)] := hl
  obtain ⟨⟨hT, hN, hM, -⟩, hT2, hN2, hM2, -⟩ := hP
  have loop : L.length = L2.length → ∀ (d i : Nat), i + d = L.length → (∀ k, k < i → nI (L.getD k 0) = nI (L2.getD k 0) ∧ w (L.getD k 0) = w2 (L2.getD k 0)) → ∀ ls : Array Slot, lv_has ls 3 [(2, .int (nI i)), (0, .ref a), (1, .ref a2)] → W p l e (x_rm 0 0 0) s m args below meth c s.heap [] 0 0 Q (F0 m 17 ls []) := by
    intro hlen d
    induction d with
    | zero =>
      intro i hi hk ls hl
      refine lv_iload_n F.1 F.2.1 d_LY_sameAs_17 rfl (lv_at hl 0 rfl) ?_
      refine lv_aload_n F.1 F.2.1 d_LY_sameAs_18 rfl (lv_at hl 1 rfl) ?_
      refine x_get F hK hT rfl i_LY 0 (by decide) k321 rfl rfl d_LY_sameAs_19 ?_
      refine x_alen F hK hN 0 rfl d_LY_sameAs_22 ?_
      refine lv_icmp_ge (tgt := 65) F.1 F.2.1 d_LY_sameAs_23 (by decide) (fun _ => ?_) (fun zq => absurd (pN_le (a := L.length) (b := i) rfl rfl (by omega) (by omega) (by omega)) zq)
      refine lv_iconst (v := 1) F.1 F.2.1 d_LY_sameAs_65 (by decide) ?_
      exact hret _ _ _ d_LY_sameAs_66 (by rw [lyEq_t hlen (fun k h => hk k (by omega))]; rfl)
    | succ d ih =>
      intro i hi hk ls hl
      refine lv_iload_n F.1 F.2.1 d_LY_sameAs_17 rfl (lv_at hl 0 rfl) ?_
      refine lv_aload_n F.1 F.2.1 d_LY_sameAs_18 rfl (lv_at hl 1 rfl) ?_
      refine x_get F hK hT rfl i_LY 0 (by decide) k321 rfl rfl d_LY_sameAs_19 ?_
      refine x_alen F hK hN 0 rfl d_LY_sameAs_22 ?_
      refine lv_icmp_ge (tgt := 65) F.1 F.2.1 d_LY_sameAs_23 (by decide) (fun zq => absurd zq (pN_nle (a := L.length) (b := i) rfl rfl (by omega) (by omega) (by omega))) (fun _ => ?_)
      refine lv_aload_n F.1 F.2.1 d_LY_sameAs_26 rfl (lv_at hl 1 rfl) ?_
      refine x_get F hK hT rfl i_LY 0 (by decide) k321 rfl rfl d_LY_sameAs_27 ?_
      refine lv_iload_n F.1 F.2.1 d_LY_sameAs_30 rfl (lv_at hl 0 rfl) ?_
      refine x_ialdN F hK hN (by omega) (by omega) d_LY_sameAs_31 ?_
      refine lv_aload_n F.1 F.2.1 d_LY_sameAs_32 rfl (lv_at hl 2 rfl) ?_
      refine x_get F hK hT2 rfl i_LY 0 (by decide) k321 rfl rfl d_LY_sameAs_33 ?_
      refine lv_iload_n F.1 F.2.1 d_LY_sameAs_36 rfl (lv_at hl 0 rfl) ?_
      refine x_ialdN F hK hN2 (by omega) (by omega) d_LY_sameAs_37 ?_
      refine lv_icmp_ne (tgt := 57) F.1 F.2.1 d_LY_sameAs_38 (by decide) (fun c38 => ?_) (fun c38 => ?_)
      · refine lv_iconst (v := 0) F.1 F.2.1 d_LY_sameAs_57 (by decide) ?_
        exact hret _ _ _ d_LY_sameAs_58 (by rw [lyEq_f (fun h => c38 (h.2 i (by omega)).1)]; rfl)
      · refine lv_aload_n F.1 F.2.1 d_LY_sameAs_41 rfl (lv_at hl 1 rfl) ?_
        refine x_get F hK hT rfl i_LY 1 (by decide) k323 rfl rfl d_LY_sameAs_42 ?_
        refine lv_iload_n F.1 F.2.1 d_LY_sameAs_45 rfl (lv_at hl 0 rfl) ?_
        refine x_laldN F hK hM (by omega) (by omega) d_LY_sameAs_46 ?_
        refine lv_aload_n F.1 F.2.1 d_LY_sameAs_47 rfl (lv_at hl 2 rfl) ?_
        refine x_get F hK hT2 rfl i_LY 1 (by decide) k323 rfl rfl d_LY_sameAs_48 ?_
        refine lv_iload_n F.1 F.2.1 d_LY_sameAs_51 rfl (lv_at hl 0 rfl) ?_
        refine x_laldN F hK hM2 (by omega) (by omega) d_LY_sameAs_52 ?_
        refine x_leq (tgt := 59) F d_LY_sameAs_53 d_LY_sameAs_54 (by decide) (fun c53 => ?_) (fun c53 => ?_)
        · refine lv_iinc (v := (nI (i + 1))) (lv' := [(2, .int (nI (i + 1))), (0, .ref a), (1, .ref a2)]) F.1 F.2.1 d_LY_sameAs_59 hl (k := 0) rfl (nI_1 i) (by decide) rfl (fun ls hl => ?_)
          refine lv_goto (tgt := 17) F.1 F.2.1 d_LY_sameAs_62 (by decide) ?_
          exact ih (i + 1) (by omega) (fun k h => by rcases Nat.lt_succ_iff_lt_or_eq.mp h with h | rfl; exact hk k h; exact ⟨c38, c53⟩) ls hl
        · refine lv_iconst (v := 0) F.1 F.2.1 d_LY_sameAs_57 (by decide) ?_
          exact hret _ _ _ d_LY_sameAs_58 (by rw [lyEq_f (fun h => c53 (h.2 i (by omega)).2)]; rfl)
  refine lv_aload_n F.1 F.2.1 d_LY_sameAs_0 rfl (lv_at hl 0 rfl) ?_
  refine x_get F hK hT rfl i_LY 0 (by decide) k321 rfl rfl d_LY_sameAs_1 ?_
  refine x_alen F hK hN 0 rfl d_LY_sameAs_4 ?_
  refine lv_aload_n F.1 F.2.1 d_LY_sameAs_5 rfl (lv_at hl 1 rfl) ?_
  refine x_get F hK hT2 rfl i_LY 0 (by decide) k321 rfl rfl d_LY_sameAs_6 ?_
  refine x_alen F hK hN2 0 rfl d_LY_sameAs_9 ?_
  refine lv_icmp_eq (tgt := 15) F.1 F.2.1 d_LY_sameAs_10 (by decide) (fun c10 => ?_) (fun c10 => ?_)
  · have c10 := (pN_eqI (a := L.length) (b := L2.length) rfl rfl (by omega) (by omega)).mp c10
    refine lv_iconst (v := 0) F.1 F.2.1 d_LY_sameAs_15 (by decide) ?_
    refine lv_istore_n (lv' := [(2, .int 0), (0, .ref a), (1, .ref a2)]) F.1 F.2.1 d_LY_sameAs_16 rfl hl (by decide) rfl (fun ls hl => ?_)
    exact loop c10 L.length 0 (by omega) (fun k h => absurd h (Nat.not_lt_zero k)) ls hl
  · have c10 := mt (pN_eqI (a := L.length) (b := L2.length) rfl rfl (by omega) (by omega)).mpr c10
    refine lv_iconst (v := 0) F.1 F.2.1 d_LY_sameAs_13 (by decide) ?_
    exact hret _ _ _ d_LY_sameAs_14 (by rw [lyEq_f (fun h => c10 h.1)]; rfl)
/-! ===== Image ===== -/
/-- an image at a: parent pr, tree at t, layer numbers at n (a row of as many as L) -/
def IM (G : x_G) (a t n : Nat) (pr : Int32) (L : List Nat) (H : Heap) : Prop := va_at G.1 x_cl (a, .inr (1, [.int pr, .ref t, .ref n])) H ∧ x_ai G n L.length (fun k => nI (L.getD k 0)) H ∧ a ≠ n
theorem c_IM_init (l : Launch) (G : x_G) (a t n : Nat) (pr : Int32) : Met l y_IM_init (x_ws y_IM_init b_IM_init 4 none) (x_rm 1 0 0) (x_P G [.ref a, .int pr, .ref t, .ref n] (fun H => va_at G.1 x_cl (a, .inr (1, [.int 0, .null, .null])) H)) (x_Q (fun r H H1 => r = none ∧ va_at G.1 x_cl (a, .inr (1, [.int pr, .ref t, .ref n])) H1 ∧ x_off (fun q => q = a) H H1)) 0 0 (fun q => q = a) := by
  refine x_wV (by decide +kernel) (Nat.le_of_ble_eq_true rfl) (fun p e s m args below meth c F hnm hK hP ls hl Q hret => ?_)
  have hl : lv_has ls 4 [(0, .ref a), (1, .int pr), (2, .ref t), (3, .ref n)] := hl
  have hS : va_S (fun q => q = a) s.heap s.heap [] := va_S.rf
  refine lv_aload_n F.1 F.2.1 d_IM_init_0 rfl (lv_at hl 0 rfl) ?_
  refine x_oi F k90 hl.1 d_IM_init_1 (by decide) (by decide) ?_
  refine lv_aload_n F.1 F.2.1 d_IM_init_4 rfl (lv_at hl 0 rfl) ?_
  refine lv_iload_n F.1 F.2.1 d_IM_init_5 rfl (lv_at hl 1 rfl) ?_
  refine x_putF F hnm hK hP rfl i_IM t_IM p_IM n_IM 0 (by decide) k91 rfl rfl rfl rfl rfl (Nat.le_of_ble_eq_true rfl) hS rfl d_IM_init_6 (fun H7 locs hP hz7 ho7 hS => ?_)
  have hP : va_at G.1 x_cl (a, .inr (1, [.int pr, .null, .null])) H7 := hP
  refine lv_aload_n F.1 F.2.1 d_IM_init_9 rfl (lv_at hl 0 rfl) ?_
  refine lv_aload_n F.1 F.2.1 d_IM_init_10 rfl (lv_at hl 2 rfl) ?_
  refine x_putF F hnm hK hP rfl i_IM t_IM p_IM n_IM 1 (by decide) k93 rfl rfl rfl rfl rfl (Nat.le_of_ble_eq_true rfl) hS rfl d_IM_init_11 (fun H8 locs hP hz8 ho8 hS => ?_)
  have hP : va_at G.1 x_cl (a, .inr (1, [.int pr, .ref t, .null])) H8 := hP
  refine lv_aload_n F.1 F.2.1 d_IM_init_14 rfl (lv_at hl 0 rfl) ?_
  refine lv_aload_n F.1 F.2.1 d_IM_init_15 rfl (lv_at hl 3 rfl) ?_
  refine x_putF F hnm hK hP rfl i_IM t_IM p_IM n_IM 2 (by decide) k95 rfl rfl rfl rfl rfl (Nat.le_of_ble_eq_true rfl) hS rfl d_IM_init_16 (fun H9 locs hP hz9 ho9 hS => ?_)
  have hP : va_at G.1 x_cl (a, .inr (1, [.int pr, .ref t, .ref n])) H9 := hP
  exact hret _ _ _ _ _ _ d_IM_init_19 ⟨rfl, hP, hS.off⟩ hS.2.2 (Nat.le_refl _) (Nat.le_refl _)
theorem c_IM_hasLayerNumber (l : Launch) (G : x_G) (a t n : Nat) (pr : Int32) (L : List Nat) (x : Int32) (hL : L.length < 1000) : Met l y_IM_hasLayerNumber (x_ws y_IM_hasLayerNumber b_IM_hasLayerNumber 6 (some .boolean)) (x_rm 0 0 0) (x_P G [.ref a, .int x] (IM G a t n pr L)) (k2_QcV (.int (x_b ((List.range L.length).any fun k => decide (nI (L.getD k 0) = x))))) 0 0 (fun _ => False) := by
  refine x_mZ (by decide +kernel) (Nat.le_of_ble_eq_true rfl) (fun p e s m args below meth c F hK hP ls hl Q hret => ?_)
  have hl : lv_has ls 6 [(0, .ref a), (1, .int x)] := hl
  obtain ⟨hT, hN, -⟩ := hP
  have loop : ∀ (d i : Nat), i + d = L.length → (∀ k, k < i → ¬ nI (L.getD k 0) = x) → ∀ ls : Array Slot, lv_has ls 6 [(4, .int (nI i)), (3, .int (nI L.length)), (2, .ref n), (0, .ref a), (1, .int x)] → W p l e (x_rm 0 0 0) s m args below meth c s.heap [] 0 0 Q (F0 m 11 ls []) := by
    intro d
    induction d with
    | zero =>
      intro i hi hk ls hl
      refine lv_iload F.1 F.2.1 d_IM_hasLayerNumber_11 (lv_at hl 0 rfl) ?_
      refine lv_iload_n F.1 F.2.1 d_IM_hasLayerNumber_13 rfl (lv_at hl 1 rfl) ?_
      refine lv_icmp_ge (tgt := 37) F.1 F.2.1 d_IM_hasLayerNumber_14 (by decide) (fun _ => ?_) (fun zq => absurd (pN_le (a := L.length) (b := i) rfl rfl (by omega) (by omega) (by omega)) zq)
      refine lv_iconst (v := 0) F.1 F.2.1 d_IM_hasLayerNumber_37 (by decide) ?_
      exact hret _ _ _ d_IM_hasLayerNumber_38 (by rw [List.any_eq_false.mpr (fun k h => by simp only [decide_eq_true_eq]; exact hk k (by have := List.mem_range.mp h; omega))]; rfl)
    | succ d ih =>
      intro i hi hk ls hl
      refine lv_iload F.1 F.2.1 d_IM_hasLayerNumber_11 (lv_at hl 0 rfl) ?_
      refine lv_iload_n F.1 F.2.1 d_IM_hasLayerNumber_13 rfl (lv_at hl 1 rfl) ?_
      refine lv_icmp_ge (tgt := 37) F.1 F.2.1 d_IM_hasLayerNumber_14 (by decide) (fun zq => absurd zq (pN_nle (a := L.length) (b := i) rfl rfl (by omega) (by omega) (by omega))) (fun _ => ?_)
      refine lv_aload_n F.1 F.2.1 d_IM_hasLayerNumber_17 rfl (lv_at hl 2 rfl) ?_
      refine lv_iload F.1 F.2.1 d_IM_hasLayerNumber_18 (lv_at hl 0 rfl) ?_
      refine x_ialdN F hK hN (by omega) (by omega) d_IM_hasLayerNumber_20 ?_
      refine lv_istore (lv' := [(5, .int (nI (L.getD i 0))), (4, .int (nI i)), (3, .int (nI L.length)), (2, .ref n), (0, .ref a), (1, .int x)]) F.1 F.2.1 d_IM_hasLayerNumber_21 hl (by decide) rfl (fun ls hl => ?_)
      refine lv_iload F.1 F.2.1 d_IM_hasLayerNumber_23 (lv_at hl 0 rfl) ?_
      refine lv_iload_n F.1 F.2.1 d_IM_hasLayerNumber_25 rfl (lv_at hl 5 rfl) ?_
      refine lv_icmp_ne (tgt := 31) F.1 F.2.1 d_IM_hasLayerNumber_26 (by decide) (fun c26 => ?_) (fun c26 => ?_)
      · refine lv_iinc (v := (nI (i + 1))) (lv' := [(4, .int (nI (i + 1))), (5, .int (nI (L.getD i 0))), (3, .int (nI L.length)), (2, .ref n), (0, .ref a), (1, .int x)]) F.1 F.2.1 d_IM_hasLayerNumber_31 hl (k := 1) rfl (nI_1 i) (by decide) rfl (fun ls hl => ?_)
        refine lv_goto (tgt := 11) F.1 F.2.1 d_IM_hasLayerNumber_34 (by decide) ?_
        exact ih (i + 1) (by omega) (fun k h => by rcases Nat.lt_succ_iff_lt_or_eq.mp h with h | rfl; exact hk k h; exact c26) ls (lv_sub hl [0, 2, 3, 4, 5] rfl)
      · refine lv_iconst (v := 1) F.1 F.2.1 d_IM_hasLayerNumber_29 (by decide) ?_
        exact hret _ _ _ d_IM_hasLayerNumber_30 (by rw [List.any_eq_true.mpr ⟨i, List.mem_range.mpr (by omega), decide_eq_true c26⟩]; rfl)
  refine lv_aload_n F.1 F.2.1 d_IM_hasLayerNumber_0 rfl (lv_at hl 0 rfl) ?_
  refine x_get F hK hT rfl i_IM 2 (by decide) k95 rfl rfl d_IM_hasLayerNumber_1 ?_
  refine lv_astore_n (lv' := [(2, .ref n), (0, .ref a), (1, .int x)]) F.1 F.2.1 d_IM_hasLayerNumber_4 rfl hl (by decide) rfl (fun ls hl => ?_)
  refine lv_aload_n F.1 F.2.1 d_IM_hasLayerNumber_5 rfl (lv_at hl 0 rfl) ?_
  refine x_alen F hK hN 0 rfl d_IM_hasLayerNumber_6 ?_
  refine lv_istore_n (lv' := [(3, .int (nI L.length)), (2, .ref n), (0, .ref a), (1, .int x)]) F.1 F.2.1 d_IM_hasLayerNumber_7 rfl hl (by decide) rfl (fun ls hl => ?_)
  refine lv_iconst (v := 0) F.1 F.2.1 d_IM_hasLayerNumber_8 (by decide) ?_
  refine lv_istore (lv' := [(4, .int 0), (3, .int (nI L.length)), (2, .ref n), (0, .ref a), (1, .int x)]) F.1 F.2.1 d_IM_hasLayerNumber_9 hl (by decide) rfl (fun ls hl => ?_)
  exact loop L.length 0 (by omega) (fun k h => absurd h (Nat.not_lt_zero k)) ls hl
end
section
/-! ===== ArrayList ===== -/
/-- the empty row of ArrayList, as the heap has it -/
def x_Hs (G : x_G) (H : Heap) : Prop := (∃ cell : Cell, H[x_sa G]? = some cell ∧ cell.vm.isStatics = true ∧ cell.slots[x_so G]? = some (.ref (x_t G))) ∧ ∃ scr : Cell, H[x_t G]? = some scr ∧ scr.cls = G.2.2.2.2 ∧ scr.vm ≠ .unknown ∧ (∀ k, scr.vm ≠ .statics k) ∧ scr.slots.size = 0
theorem x_Hs.keep {G : x_G} {H H1 : Heap} {A : Nat → Prop} (h : x_Hs G H) (ho : x_off A H H1) (h1 : ¬ A (x_sa G)) (h2 : ¬ A (x_t G)) : x_Hs G H1 := by
  obtain ⟨⟨cell, a1, a2⟩, scr, b1, b2⟩ := h
  exact ⟨⟨cell, by rw [ho.2 _ (Array.getElem?_eq_some_iff.mp a1).1 h1]; exact a1, a2⟩, scr, by rw [ho.2 _ (Array.getElem?_eq_some_iff.mp b1).1 h2]; exact b1, b2⟩
/-- an object that may lie in a row of objects: an Image or a Layer -/
def isO (G : x_G) (y : Nat) (H : Heap) : Prop := ∃ fs : List Value, va_at G.1 x_cl (y, .inr (1, fs)) H ∨ va_at G.1 x_cl (y, .inr (2, fs)) H
theorem isO.lt {G : x_G} {y : Nat} {H : Heap} (h : isO G y H) : y < H.size := by
  obtain ⟨fs, h | h⟩ := h
  · exact h.lt
  · exact h.lt
theorem isO.keep {G : x_G} {y : Nat} {H H1 : Heap} (h : isO G y H) (hq : H1[y]? = H[y]?) : isO G y H1 := by
  obtain ⟨fs, h | h⟩ := h
  · exact ⟨fs, Or.inl (h.kept hq)⟩
  · exact ⟨fs, Or.inr (h.kept hq)⟩
theorem isO.any {G : x_G} {y : Nat} {H : Heap} {s : State} (hK : x_K G s) (h : isO G y H) : va_Any "java/lang/Object" s H y := by
  have hg : ∀ C : String, va_Nw (.castable C "java/lang/Object") s → ∀ comp c0 : ClassId, s.vm.findClass "java/lang/Object" = some comp → s.vm.findClass C = some c0 → s.vm.assignable c0 comp = true := by
    intro C hw comp c0 h1 h2
    obtain ⟨c1, t1, f1, f2, f3⟩ := Cond.castable_spec (va_Nw.use (A := #[]) rfl hw)
    cases h2.symm.trans f1
    cases h1.symm.trans f2
    exact f3
  obtain ⟨fs, h | h⟩ := h
  · exact va_rAny hK.1 (x_one h) (q0 := 0) (r := ("ImageStores$Image", F_IM, 3)) rfl rfl (hg _ (hK.2.1 _ (List.mem_of_getElem? (i := 7) rfl)))
  · exact va_rAny hK.1 (x_one h) (q0 := 0) (r := ("ImageStores$Layer", F_LY, 2)) rfl rfl (hg _ (hK.2.1 _ (List.mem_of_getElem? (i := 8) rfl)))
section XQ
variable {p : Program} {l : Launch} {e : Env} {R : Room} {s : State} {m : MethodId} {args : Array Value} {below : List Frame} {meth : Method} {c : Code} {H : Heap} {locs : List Loc} {cells slots : Nat} {Q : State → Prop}
variable {cc : ByteArray} {pc nL index : Nat} {ls : Array Slot} {rest : List Value} {own : String} {G : x_G} {A : Nat → Prop} {H0 : Heap} {a N : Nat}
theorem x_gets (F : x_F p m c cc nL s args own) (hK : x_K G s) (hH : x_Hs G H) (kl : Cond.fieldLink own index "java/util/ArrayList" "DEFAULTCAPACITY_EMPTY_ELEMENTDATA" "[Ljava/lang/Object;" ∈ x_tb) (hdg : decode cc pc = .ok (.getstatic index, 3))
    (kk : W p l e R s m args below meth c H locs cells slots Q (F0 m (pc + 3) ls (.ref (x_t G) :: rest))) : W p l e R s m args below meth c H locs cells slots Q (F0 m pc ls rest) := by
  obtain ⟨cf, kf, fi, f, h1, h2, h3, h4, h5⟩ := hK.2.2.2.2.2
  obtain ⟨⟨cell, a1, a2, a3⟩, -⟩ := hH
  exact W.gets F.1 F.2.1 F.2.2.2.1 (F.2.2.2.2 _ kl) h1 h2 h3 h4 a1 (fun e => by rw [e] at a2; cases a2) (by rw [h5]; exact a3) rfl hdg kk
theorem x_tlen (F : x_F p m c cc nL s args own) (hK : x_K G s) (hH : x_Hs G H) (hdg : decode cc pc = .ok (.arraylength, 1)) (kk : W p l e R s m args below meth c H locs cells slots Q (F0 m (pc + 1) ls (.int (nI 0) :: rest))) : W p l e R s m args below meth c H locs cells slots Q (F0 m pc ls (.ref (x_t G) :: rest)) := by
  obtain ⟨-, scr, b1, b2, b3, b4, b5⟩ := hH
  obtain ⟨-, k, hk, comp, hkind⟩ := (hK.1.2 3 _ rfl).1 0 (fun _ => .null)
  exact W.alen (n := nI 0) F.1 F.2.1 b1 (ty := .object "java/lang/Object") ⟨b4, k, by rw [b2]; exact hk, comp, hkind⟩ (by rw [b5]; rfl) rfl rfl hdg kk
theorem x_newaQ (F : x_F p m c cc nL s args own) (hK : x_K G s) (kl : Cond.classLink own index "java/lang/Object" ∈ x_tb) (hN : N < 100000) (hcells : cells + 1 ≤ R.cells) (hslots : slots + N ≤ R.slots) (hS : va_S A H0 H locs) (hdg : decode cc pc = .ok (.anewarray index, 3))
    (kk : ∀ (q : Nat) (H1 : Heap), q = H.size → x_aq G q N (fun _ => none) H1 → H1.size = H.size + 1 → (∀ q : Nat, q < H.size → H1[q]? = H[q]?) → va_S A H0 H1 locs → W p l e R s m args below meth c H1 locs (cells + 1) (slots + N) Q (F0 m (pc + 3) ls (.ref q :: rest))) : W p l e R s m args below meth c H locs cells slots Q (F0 m pc ls (.int (nI N) :: rest)) := by
  have hc : (nI N).toNatClampNeg = N := nI_clamp (by omega)
  refine W.anew F.1 F.2.1 F.2.2.2.1 (F.2.2.2.2 _ kl) (va_AO.use hK.2.2.1) rfl hdg rfl (nI_pos (by omega)) (by rw [hc]; omega) hcells (by rw [hc]; exact hslots) fun cA kA comp f1 f2 f3 f4 => ?_
  have e1 : cA = G.2.2.2.2 := by
    obtain ⟨-, -, -, -, -, h4⟩ := (hK.1.2 3 _ rfl).2
    exact Option.some.inj (f1.symm.trans h4)
  subst e1
  rw [hc]
  generalize hH1 : H.push ({ cls := G.2.2.2.2, slots := Array.replicate N .null, vm := .none } : Cell) = H1
  have z1 : H1.size = H.size + 1 := by rw [← hH1, Array.size_push]
  have o1 : ∀ q : Nat, q < H.size → H1[q]? = H[q]? := fun q hq => by rw [← hH1, Array.getElem?_push, if_neg (Nat.ne_of_lt hq)]
  refine kk H.size H1 rfl ?_ z1 o1 ⟨by have := hS.1; omega, fun x h1 h2 => (o1 x (Nat.lt_of_lt_of_le h1 hS.1)).trans (hS.2.1 x h1 h2), hS.2.2⟩
  show H1[H.size]? = some (vp_cell _ _)
  rw [vp_cell_q, ← hH1, Array.getElem?_push_size, ← arrV_new]
  rfl
theorem x_qast (F : x_F p m c cc nL s args own) (hK : x_K G s) {n v : Nat} {f : Nat → Option Nat} (hat : x_aq G a n f H) (hv : isO G v H) (hn : n < 2 ^ 31) {i : Nat} (hi : i < n) (hS : va_S A H0 H locs) (hA : A a) (hdg : decode cc pc = .ok (.aastore, 1))
    (kk : ∀ (H1 : Heap) (locs1 : List Loc), x_aq G a n (va_up f i (some v)) H1 → H1.size = H.size → (∀ q : Nat, q ≠ a → H1[q]? = H[q]?) → va_S A H0 H1 locs1 → W p l e R s m args below meth c H1 locs1 cells slots Q (F0 m (pc + 1) ls rest)) : W p l e R s m args below meth c H locs cells slots Q (F0 m pc ls (.ref v :: .int (nI i) :: .ref a :: rest)) := by
  have hc : (nI i).toNatClampNeg = i := nI_clamp (by omega)
  obtain ⟨cellV, g1, g3, ⟨kC, hkC⟩, hasg⟩ := hv.any hK
  obtain ⟨kA, comp, k1, k2, k3, -⟩ := (hK.1.2 3 _ rfl).2
  obtain ⟨kE, hkE, -⟩ := Vm.findClass_spec k3
  refine W.aast F.1 F.2.1 hat (fun q h => by cases h) (fun h => by cases h) k1 k2 rfl hkE ⟨nI_pos (by omega), by show _ < (arrV _ _ _).slots.size; rw [arrV_size, hc]; exact hi⟩ g1 (fun q h => by rw [h] at g3; cases g3) hkC (hasg _ k3) rfl rfl hdg fun H1 e z oq => ?_
  refine kk H1 _ ?_ z oq (hS.put z oq hA)
  show H1[a]? = some (vp_cell _ _)
  rw [e, vp_cell_q, vp_cell_q, arrV_store, hc]
  congr 2
  funext q
  by_cases hq : q = i
  · subst hq
    simp [updV, va_up, va_rf]
  · simp [updV, va_up, hq]
end XQ
theorem x_aq.cg {G : x_G} {a n : Nat} {f g : Nat → Option Nat} {H : Heap} (hf : x_aq G a n f H) (h : ∀ j, j < n → f j = g j) : x_aq G a n g H := by
  show H[a]? = some (vp_cell _ _)
  rw [vp_cell_q, ← arrV_cg (f := fun j => va_rf (f j)) (fun j hj => by rw [h j hj])]
  exact hf
theorem c_MA_max (l : Launch) (G : x_G) (x y : Nat) (hx : x < 2 ^ 31) (hy : y < 2 ^ 31) : Met l y_MA_max (x_ws y_MA_max b_MA_max 2 (some .int)) (x_rm 0 0 0) (x_P G [.int (nI x), .int (nI y)] (fun _ => True)) (k2_QcV (.int (nI (max x y)))) 0 0 (fun _ => False) := by
  refine x_mI (by decide +kernel) (Nat.le_of_ble_eq_true rfl) (fun p e s m args below meth c F hK hP ls hl Q hret => ?_)
  have hl : lv_has ls 2 [(0, .int (nI x)), (1, .int (nI y))] := hl
  refine lv_iload_n F.1 F.2.1 d_MA_max_0 rfl (lv_at hl 0 rfl) ?_
  refine lv_iload_n F.1 F.2.1 d_MA_max_1 rfl (lv_at hl 1 rfl) ?_
  refine lv_icmp_lt (tgt := 9) F.1 F.2.1 d_MA_max_2 (by decide) (fun c2 => ?_) (fun c2 => ?_)
  · have c2 := (pN_ltI (a := x) (b := y) rfl rfl (by omega) (by omega)).mp c2
    refine lv_iload_n F.1 F.2.1 d_MA_max_9 rfl (lv_at hl 1 rfl) ?_
    exact hret _ _ _ d_MA_max_10 (by rw [Nat.max_eq_right (by omega)])
  · have c2 := mt (pN_ltI (a := x) (b := y) rfl rfl (by omega) (by omega)).mpr c2
    refine lv_iload_n F.1 F.2.1 d_MA_max_5 rfl (lv_at hl 0 rfl) ?_
    refine lv_goto (tgt := 10) F.1 F.2.1 d_MA_max_6 (by decide) ?_
    exact hret _ _ _ d_MA_max_10 (by rw [Nat.max_eq_left (by omega)])
theorem c_MA_min (l : Launch) (G : x_G) (x y : Nat) (hx : x < 2 ^ 31) (hy : y < 2 ^ 31) : Met l y_MA_min (x_ws y_MA_min b_MA_min 2 (some .int)) (x_rm 0 0 0) (x_P G [.int (nI x), .int (nI y)] (fun _ => True)) (k2_QcV (.int (nI (min x y)))) 0 0 (fun _ => False) := by
  refine x_mI (by decide +kernel) (Nat.le_of_ble_eq_true rfl) (fun p e s m args below meth c F hK hP ls hl Q hret => ?_)
  have hl : lv_has ls 2 [(0, .int (nI x)), (1, .int (nI y))] := hl
  refine lv_iload_n F.1 F.2.1 d_MA_min_0 rfl (lv_at hl 0 rfl) ?_
  refine lv_iload_n F.1 F.2.1 d_MA_min_1 rfl (lv_at hl 1 rfl) ?_
  refine lv_icmp_gt (tgt := 9) F.1 F.2.1 d_MA_min_2 (by decide) (fun c2 => ?_) (fun c2 => ?_)
  · have c2 := (pN_ltI (a := y) (b := x) rfl rfl (by omega) (by omega)).mp c2
    refine lv_iload_n F.1 F.2.1 d_MA_min_9 rfl (lv_at hl 1 rfl) ?_
    exact hret _ _ _ d_MA_min_10 (by rw [Nat.min_eq_right (by omega)])
  · have c2 := mt (pN_ltI (a := y) (b := x) rfl rfl (by omega) (by omega)).mpr c2
    refine lv_iload_n F.1 F.2.1 d_MA_min_5 rfl (lv_at hl 0 rfl) ?_
    refine lv_goto (tgt := 10) F.1 F.2.1 d_MA_min_6 (by decide) ?_
    exact hret _ _ _ d_MA_min_10 (by rw [Nat.min_eq_left (by omega)])
theorem c_PR_checkIndex (l : Launch) (G : x_G) (i n : Nat) (hi : i < n) (hn : n < 2 ^ 31) : Met l y_PR_checkIndex (x_ws y_PR_checkIndex b_PR_checkIndex 3 (some .int)) (x_rm 0 0 0) (x_P G [.int (nI i), .int (nI n), .null] (fun _ => True)) (k2_QcV (.int (nI i))) 0 0 (fun _ => False) := by
  refine x_mI (by decide +kernel) (Nat.le_of_ble_eq_true rfl) (fun p e s m args below meth c F hK hP ls hl Q hret => ?_)
  have hl : lv_has ls 3 [(0, .int (nI i)), (1, .int (nI n)), (2, .null)] := hl
  refine lv_iload_n F.1 F.2.1 d_PR_checkIndex_0 rfl (lv_at hl 0 rfl) ?_
  refine lv_if_lt (tgt := 9) F.1 F.2.1 d_PR_checkIndex_1 (by decide) (fun zq => absurd zq (pN_nlt (a := i) (b := 0) rfl rfl (by omega) (by omega) (by omega))) (fun _ => ?_)
  refine lv_iload_n F.1 F.2.1 d_PR_checkIndex_4 rfl (lv_at hl 0 rfl) ?_
  refine lv_iload_n F.1 F.2.1 d_PR_checkIndex_5 rfl (lv_at hl 1 rfl) ?_
  refine lv_icmp_lt (tgt := 16) F.1 F.2.1 d_PR_checkIndex_6 (by decide) (fun _ => ?_) (fun zq => absurd (pN_lt (a := i) (b := n) rfl rfl (by omega) (by omega) (by omega)) zq)
  refine lv_iload_n F.1 F.2.1 d_PR_checkIndex_16 rfl (lv_at hl 0 rfl) ?_
  exact hret _ _ _ d_PR_checkIndex_17 rfl
theorem c_OB_checkIndex (l : Launch) (G : x_G) (i n : Nat) (hi : i < n) (hn : n < 2 ^ 31) : Met l y_OB_checkIndex (x_ws y_OB_checkIndex b_OB_checkIndex 2 (some .int)) (x_rm 1 0 0) (x_P G [.int (nI i), .int (nI n)] (fun _ => True)) (k2_QcV (.int (nI i))) 0 0 (fun _ => False) := by
  refine x_mI (by decide +kernel) (Nat.le_of_ble_eq_true rfl) (fun p e s m args below meth c F hK hP ls hl Q hret => ?_)
  have hl : lv_has ls 2 [(0, .int (nI i)), (1, .int (nI n))] := hl
  refine lv_iload_n F.1 F.2.1 d_OB_checkIndex_0 rfl (lv_at hl 0 rfl) ?_
  refine lv_iload_n F.1 F.2.1 d_OB_checkIndex_1 rfl (lv_at hl 1 rfl) ?_
  refine lv_null F.1 F.2.1 d_OB_checkIndex_2 ?_
  refine x_rd (x_S (n := 3) (As := [.int (nI i), .int (nI n), .null]) F (c_PR_checkIndex l G i n hi hn) ok_PR_checkIndex k203 ⟨Nat.le_of_ble_eq_true rfl, Nat.le_of_ble_eq_true rfl⟩ rfl rfl hK (trivial) rfl hl.1 rfl (Nat.le_of_ble_eq_true rfl) d_OB_checkIndex_3 ⟨Nat.le_of_ble_eq_true rfl, Nat.le_of_ble_eq_true rfl⟩) ?_
  exact hret _ _ _ d_OB_checkIndex_6 rfl
/-- a list at a of n elements, its row of cap places at d -/
def AL (G : x_G) (a d cap n : Nat) (es : Nat → Option Nat) (H : Heap) : Prop := (∃ mo : Int32, va_at G.1 x_cl (a, .inr (0, [.int mo, .ref d, .int (nI n)])) H) ∧ a ≠ d ∧ ((d = x_t G ∧ n = 0) ∨ (x_aq G d cap es H ∧ n ≤ cap ∧ 10 ≤ cap)) ∧ cap < 1000
theorem c_AL_size (l : Launch) (G : x_G) (a d cap n : Nat) (es : Nat → Option Nat) : Met l y_AL_size (x_ws y_AL_size b_AL_size 1 (some .int)) (x_rm 0 0 0) (x_P G [.ref a] (AL G a d cap n es)) (k2_QcV (.int (nI n))) 0 0 (fun _ => False) := by
  refine x_mI (by decide +kernel) (Nat.le_of_ble_eq_true rfl) (fun p e s m args below meth c F hK hP ls hl Q hret => ?_)
  have hl : lv_has ls 1 [(0, .ref a)] := hl
  obtain ⟨⟨mo, hT⟩, -⟩ := hP
  refine lv_aload_n F.1 F.2.1 d_AL_size_0 rfl (lv_at hl 0 rfl) ?_
  refine x_get F hK hT rfl i_AL 2 (by decide) k40 rfl rfl d_AL_size_1 ?_
  exact hret _ _ _ d_AL_size_4 rfl
theorem c_AL_elementData (l : Launch) (G : x_G) (a d cap n : Nat) (es : Nat → Option Nat) (i y : Nat) (hi : i < n) (hy : es i = some y) : Met l y_AL_elementData (x_ws y_AL_elementData b_AL_elementData 2 (some (.object "java/lang/Object"))) (x_rm 0 0 0) (x_P G [.ref a, .int (nI i)] (AL G a d cap n es)) (k2_QcV (.ref y)) 0 0 (fun _ => False) := by
  refine x_mA (Or.inl ⟨_, rfl⟩) (Or.inr ⟨_, rfl⟩) (by decide +kernel) (Nat.le_of_ble_eq_true rfl) (fun p e s m args below meth c F hK hP ls hl Q hret => ?_)
  have hl : lv_has ls 2 [(0, .ref a), (1, .int (nI i))] := hl
  obtain ⟨⟨mo, hT⟩, -, h2, h3⟩ := hP
  rcases h2 with h2 | ⟨hM, hn, -⟩
  · exact absurd hi (by omega)
  refine lv_aload_n F.1 F.2.1 d_AL_elementData_0 rfl (lv_at hl 0 rfl) ?_
  refine x_get F hK hT rfl i_AL 1 (by decide) k39 rfl rfl d_AL_elementData_1 ?_
  refine lv_iload_n F.1 F.2.1 d_AL_elementData_4 rfl (lv_at hl 1 rfl) ?_
  refine x_qaldN F hK hM (by omega) (by omega) d_AL_elementData_5 ?_
  exact hret _ _ _ d_AL_elementData_6 (by rw [hy]; rfl)
theorem c_AL_get (l : Launch) (G : x_G) (a d cap n : Nat) (es : Nat → Option Nat) (i y : Nat) (hi : i < n) (hn : n < 1000) (hy : es i = some y) : Met l y_AL_get (x_ws y_AL_get b_AL_get 2 (some (.object "java/lang/Object"))) (x_rm 2 0 0) (x_P G [.ref a, .int (nI i)] (AL G a d cap n es)) (k2_QcV (.ref y)) 0 0 (fun _ => False) := by
  refine x_mA (Or.inl ⟨_, rfl⟩) (Or.inr ⟨_, rfl⟩) (by decide +kernel) (Nat.le_of_ble_eq_true rfl) (fun p e s m args below meth c F hK hP ls hl Q hret => ?_)
  have hl : lv_has ls 2 [(0, .ref a), (1, .int (nI i))] := hl
  obtain ⟨⟨mo, hT⟩, -⟩ := id hP
  refine lv_iload_n F.1 F.2.1 d_AL_get_0 rfl (lv_at hl 1 rfl) ?_
  refine lv_aload_n F.1 F.2.1 d_AL_get_1 rfl (lv_at hl 0 rfl) ?_
  refine x_get F hK hT rfl i_AL 2 (by decide) k40 rfl rfl d_AL_get_2 ?_
  refine x_rd (x_S (n := 2) (As := [.int (nI i), .int (nI n)]) F (c_OB_checkIndex l G i n hi (by omega)) ok_OB_checkIndex k200 ⟨Nat.le_of_ble_eq_true rfl, Nat.le_of_ble_eq_true rfl⟩ rfl rfl hK (trivial) rfl hl.1 rfl (Nat.le_of_ble_eq_true rfl) d_AL_get_5 ⟨Nat.le_of_ble_eq_true rfl, Nat.le_of_ble_eq_true rfl⟩) ?_
  refine lv_pop F.1 F.2.1 d_AL_get_8 rfl ?_
  refine lv_aload_n F.1 F.2.1 d_AL_get_9 rfl (lv_at hl 0 rfl) ?_
  refine lv_iload_n F.1 F.2.1 d_AL_get_10 rfl (lv_at hl 1 rfl) ?_
  refine x_rd (x_V (n := 1) (As := [.int (nI i)]) F (c_AL_elementData l G a d cap n es i y hi hy) ok_AL_elementData k206 ⟨Nat.le_of_ble_eq_true rfl, Nat.le_of_ble_eq_true rfl⟩ rfl rfl hK (x_rcv hK hT rfl) (hP) rfl hl.1 rfl (Nat.le_of_ble_eq_true rfl) d_AL_get_11 ⟨Nat.le_of_ble_eq_true rfl, Nat.le_of_ble_eq_true rfl⟩) ?_
  exact hret _ _ _ d_AL_get_14 rfl
end
section
/-! ===== ArrayList: new, add ===== -/
section XS
variable {p : Program} {l : Launch} {e : Env} {R : Room} {s : State} {m : MethodId} {args : Array Value} {below : List Frame} {meth : Method} {c : Code} {H : Heap} {locs : List Loc} {cells slots : Nat} {Q : State → Prop}
variable {cc : ByteArray} {pc nL : Nat} {ls : Array Slot} {rest : List Value} {G : x_G} {a : Nat} {A : Nat → Prop} {H0 : Heap}
theorem x_same (F : x_F p m c cc nL s args "java/util/ArrayList") : ∀ x, s.fieldFound? "java/util/AbstractList" "modCount" "I" = some x → s.fieldFound? "java/util/ArrayList" "modCount" "I" = some x := fun x h => u_same (F.2.2.2.2 _ k43) x h
/-- modCount under the list's own name -/
theorem x_getM (F : x_F p m c cc nL s args "java/util/ArrayList") (hK : x_K G s) {mo : Int32} {d n : Value} (hat : va_at G.1 x_cl (a, .inr (0, [.int mo, d, n])) H) (hdg : decode cc pc = .ok (.getfield 63, 3))
    (kk : W p l e R s m args below meth c H locs cells slots Q (F0 m (pc + 3) ls (.int mo :: rest))) : W p l e R s m args below meth c H locs cells slots Q (F0 m pc ls (.ref a :: rest)) :=
  va_get (C := "java/util/ArrayList") (T := F_AL) (N := 3) (ci := 0) F.1 F.2.1 F.2.2.2.2 i_AL F.2.2.2.1 hK.1 (x_one hat) 0 rfl rfl 0 (by decide) (F.2.2.2.2 _ k42) (x_same F) rfl hdg kk
theorem x_putM (F : x_F p m c cc nL s args "java/util/ArrayList") (hK : x_K G s) {mo v : Int32} {d n : Value} (hat : va_at G.1 x_cl (a, .inr (0, [.int mo, d, n])) H) (hdg : decode cc pc = .ok (.putfield 63, 3)) (hS : va_S A H0 H locs) (hA : A a)
    (kk : ∀ (H1 : Heap) (locs1 : List Loc), va_at G.1 x_cl (a, .inr (0, [.int v, d, n])) H1 → H1.size = H.size → (∀ q : Nat, q ≠ a → H1[q]? = H[q]?) → va_S A H0 H1 locs1 → W p l e R s m args below meth c H1 locs1 cells slots Q (F0 m (pc + 3) ls rest)) : W p l e R s m args below meth c H locs cells slots Q (F0 m pc ls (.int v :: .ref a :: rest)) := by
  obtain ⟨hexec, hb, hml, hown, hts⟩ := id F
  have hc : x_cl[0]? = some ("java/util/ArrayList", F_AL, 3) := rfl
  have hap := va_apart (own := "java/util/ArrayList") hts i_AL t_AL p_AL n_AL hK.1 hc
  obtain ⟨r, h1, cell, q1, q2, q3, q4⟩ := hat
  have hr' : r = ("java/util/ArrayList", F_AL, 3) := Option.some.inj (h1.symm.trans hc)
  subst hr'
  obtain ⟨hSl, hfc, kC, hkC, hkind⟩ := hK.1.1 0 _ hc
  obtain ⟨cf, kf, fi, f, hi, hsl⟩ := hSl 0 (by decide)
  have hst := (u_facts hfc hkC (u_lays hts i_AL (k := 0) (by decide)) hi).1
  have h6 := u_store (v := .int v) hfc hkC hkind (hts _ k48) hi (p_AL 0 (by decide)) rfl rfl
  refine W.putK hexec hb (f := f) ⟨hown, hts _ k42, ⟨_, _, _, x_same F _ hi⟩, hst⟩ (by rw [q2]; exact h6) q1 q3 (by rw [hsl]; exact k2_hasslot (q4 0 (by decide))) rfl rfl hdg fun H' e1 e2 e3 => ?_
  rw [hsl] at e1 ⊢
  exact kk H' _ ⟨_, hc, t_OB.to (V := updV (vp_V [.int mo, d, n]) 0 (.int v)) ⟨_, e1, q2, q3, t_set q4 hap (by decide) (.int v)⟩ (fun j _ => vp_updV_set (Nat.le_of_ble_eq_true rfl) (.int v) j)⟩ e2 e3 (hS.put e2 e3 hA)
end XS
theorem c_AC_init (l : Launch) (G : x_G) (a : Nat) : Met l y_AC_init (x_ws y_AC_init b_AC_init 1 none) (x_rm 1 0 0) (x_P G [.ref a] (fun _ => True)) (x_Q (fun r H H1 => r = none ∧ H1 = H)) 0 0 (fun _ => False) := by
  refine x_wV (by decide +kernel) (Nat.le_of_ble_eq_true rfl) (fun p e s m args below meth c F hnm hK hP ls hl Q hret => ?_)
  have hl : lv_has ls 1 [(0, .ref a)] := hl
  refine lv_aload_n F.1 F.2.1 d_AC_init_0 rfl (lv_at hl 0 rfl) ?_
  refine x_oi F k36 hl.1 d_AC_init_1 (by decide) (by decide) ?_
  exact hret _ _ _ _ _ _ d_AC_init_4 ⟨rfl, rfl⟩ (fun q h => absurd h List.not_mem_nil) (Nat.le_refl _) (Nat.le_refl _)
theorem c_AB_init (l : Launch) (G : x_G) (a : Nat) (d : Value) (n : Int32) : Met l y_AB_init (x_ws y_AB_init b_AB_init 1 none) (x_rm 2 0 0) (x_P G [.ref a] (fun H => va_at G.1 x_cl (a, .inr (0, [.int 0, d, .int n])) H)) (x_Q (fun r H H1 => r = none ∧ va_at G.1 x_cl (a, .inr (0, [.int 0, d, .int n])) H1 ∧ x_off (fun q => q = a) H H1)) 0 0 (fun q => q = a) := by
  refine x_wV (by decide +kernel) (Nat.le_of_ble_eq_true rfl) (fun p e s m args below meth c F hnm hK hP ls hl Q hret => ?_)
  have hl : lv_has ls 1 [(0, .ref a)] := hl
  have hS : va_S (fun q => q = a) s.heap s.heap [] := va_S.rf
  refine lv_aload_n F.1 F.2.1 d_AB_init_0 rfl (lv_at hl 0 rfl) ?_
  refine x_wr (x_I (n := 0) (As := []) F (c_AC_init l G a) ok_AC_init k33 ⟨Nat.le_of_ble_eq_true rfl, Nat.le_of_ble_eq_true rfl⟩ rfl rfl hK (trivial) rfl hl.1 rfl (Nat.le_of_ble_eq_true rfl) d_AB_init_1 ⟨Nat.le_of_ble_eq_true rfl, Nat.le_of_ble_eq_true rfl⟩) hS (fun _ h => h.elim) (fun _ _ h => ⟨by rw [h.2]; exact Nat.le_refl _, fun _ _ _ => by rw [h.2]⟩) (fun v H1 locs hpost hS => ?_)
  obtain ⟨rfl, rfl⟩ := hpost
  refine lv_aload_n F.1 F.2.1 d_AB_init_4 rfl (lv_at hl 0 rfl) ?_
  refine lv_iconst (v := 0) F.1 F.2.1 d_AB_init_5 (by decide) ?_
  refine x_put F hK hP rfl i_AL t_AL p_AL n_AL 0 (by decide) k41 rfl rfl rfl rfl (Nat.le_of_ble_eq_true rfl) hS rfl d_AB_init_6 (fun H2 locs hP hz2 ho2 hS => ?_)
  have hP : va_at G.1 x_cl (a, .inr (0, [.int 0, d, .int n])) H2 := hP
  exact hret _ _ _ _ _ _ d_AB_init_9 ⟨rfl, hP, hS.off⟩ hS.2.2 (Nat.le_refl _) (Nat.le_refl _)
theorem c_AL_init (l : Launch) (G : x_G) (a : Nat) (n1 : x_sa G ≠ a) (n2 : x_t G ≠ a) : Met l y_AL_init (x_ws y_AL_init b_AL_init 1 none) (x_rm 3 0 0) (x_P G [.ref a] (fun H => x_Hs G H ∧ va_at G.1 x_cl (a, .inr (0, [.int 0, .null, .int 0])) H)) (x_Q (fun r H H1 => r = none ∧ AL G a (x_t G) 0 0 (fun _ => none) H1 ∧ x_off (fun q => q = a) H H1)) 0 0 (fun q => q = a) := by
  refine x_wV (by decide +kernel) (Nat.le_of_ble_eq_true rfl) (fun p e s m args below meth c F hnm hK hP ls hl Q hret => ?_)
  have hl : lv_has ls 1 [(0, .ref a)] := hl
  obtain ⟨hZ, hT⟩ := hP
  have hS : va_S (fun q => q = a) s.heap s.heap [] := va_S.rf
  refine lv_aload_n F.1 F.2.1 d_AL_init_0 rfl (lv_at hl 0 rfl) ?_
  refine x_wr (x_I (n := 0) (As := []) F (c_AB_init l G a .null 0) ok_AB_init k30 ⟨Nat.le_of_ble_eq_true rfl, Nat.le_of_ble_eq_true rfl⟩ rfl rfl hK (hT) rfl hl.1 rfl (Nat.le_of_ble_eq_true rfl) d_AL_init_1 ⟨Nat.le_of_ble_eq_true rfl, Nat.le_of_ble_eq_true rfl⟩) hS (fun _ h => h) (fun _ _ h => h.2.2) (fun v H3 locs hpost hS => ?_)
  obtain ⟨rfl, hT, ho⟩ := hpost
  have hZ := hZ.keep ho n1 n2
  refine lv_aload_n F.1 F.2.1 d_AL_init_4 rfl (lv_at hl 0 rfl) ?_
  refine x_gets F hK hZ k37 d_AL_init_5 ?_
  refine x_put F hK hT rfl i_AL t_AL p_AL n_AL 1 (by decide) k39 rfl rfl rfl rfl (Nat.le_of_ble_eq_true rfl) hS rfl d_AL_init_8 (fun H4 locs hT hz4 ho4 hS => ?_)
  have hT : va_at G.1 x_cl (a, .inr (0, [.int 0, .ref (x_t G), .int 0])) H4 := hT
  exact hret _ _ _ _ _ _ d_AL_init_11 ⟨rfl, ⟨⟨0, hT⟩, Ne.symm n2, Or.inl ⟨rfl, rfl⟩, by decide⟩, hS.off⟩ hS.2.2 (Nat.le_refl _) (Nat.le_refl _)
theorem c_SU_newLength (l : Launch) (G : x_G) (x y z : Nat) (hx : x < 1000) (hy : y < 1000) (hz : z < 1000) (h0 : 0 < x) : Met l y_SU_newLength (x_ws y_SU_newLength b_SU_newLength 4 (some .int)) (x_rm 1 0 0) (x_P G [.int (nI x), .int (nI y), .int (nI z)] (fun _ => True)) (k2_QcV (.int (nI (x + max y z)))) 0 0 (fun _ => False) := by
  refine x_mI (by decide +kernel) (Nat.le_of_ble_eq_true rfl) (fun p e s m args below meth c F hK hP ls hl Q hret => ?_)
  have hl : lv_has ls 4 [(0, .int (nI x)), (1, .int (nI y)), (2, .int (nI z))] := hl
  have hm : max y z < 1000 := by omega
  refine lv_iload_n F.1 F.2.1 d_SU_newLength_0 rfl (lv_at hl 0 rfl) ?_
  refine lv_iload_n F.1 F.2.1 d_SU_newLength_1 rfl (lv_at hl 1 rfl) ?_
  refine lv_iload_n F.1 F.2.1 d_SU_newLength_2 rfl (lv_at hl 2 rfl) ?_
  refine x_rd (x_S (n := 2) (As := [.int (nI y), .int (nI z)]) F (c_MA_max l G y z (by omega) (by omega)) ok_MA_max k123 ⟨Nat.le_of_ble_eq_true rfl, Nat.le_of_ble_eq_true rfl⟩ rfl rfl hK (trivial) rfl hl.1 rfl (Nat.le_of_ble_eq_true rfl) d_SU_newLength_3 ⟨Nat.le_of_ble_eq_true rfl, Nat.le_of_ble_eq_true rfl⟩) ?_
  refine lv_iadd F.1 F.2.1 d_SU_newLength_6 ?_
  rw [nI_add]
  refine lv_istore_n (lv' := [(3, .int (nI (x + max y z))), (0, .int (nI x)), (1, .int (nI y)), (2, .int (nI z))]) F.1 F.2.1 d_SU_newLength_7 rfl hl (by decide) rfl (fun ls hl => ?_)
  refine lv_iconst (v := 0) F.1 F.2.1 d_SU_newLength_8 (by decide) ?_
  refine lv_iload_n F.1 F.2.1 d_SU_newLength_9 rfl (lv_at hl 0 rfl) ?_
  refine lv_icmp_ge (tgt := 21) F.1 F.2.1 d_SU_newLength_10 (by decide) (fun zq => absurd zq (pN_nle (a := (x + max y z)) (b := 0) rfl rfl (by omega) (by omega) (by omega))) (fun _ => ?_)
  refine lv_iload_n F.1 F.2.1 d_SU_newLength_13 rfl (lv_at hl 0 rfl) ?_
  refine x_ldc F k126 d_SU_newLength_14 ?_
  refine lv_icmp_gt (tgt := 21) F.1 F.2.1 d_SU_newLength_16 (by decide) (fun zq => absurd zq (pN_nlt (a := 2147483639) (b := x + max y z) rfl rfl (by omega) (by omega) (by omega))) (fun _ => ?_)
  refine lv_iload_n F.1 F.2.1 d_SU_newLength_19 rfl (lv_at hl 0 rfl) ?_
  exact hret _ _ _ d_SU_newLength_20 rfl
/-- the first n of es, then nothing -/
def cut (es : Nat → Option Nat) (n : Nat) : Nat → Option Nat := fun j => if j < n then es j else none
theorem c_AR_copyOf3 (l : Launch) (G : x_G) (d cap N : Nat) (es : Nat → Option Nat) (sz : Nat) (hc : cap < 1000) (hN : N < 1000) (hcN : cap ≤ N) : Met l y_AR_copyOf3 (x_ws y_AR_copyOf3 b_AR_copyOf3 4 (some (.array (.object "java/lang/Object")))) (x_rm 1 1 N) (x_P G [.ref d, .int (nI N), .ref (x_mi G)] (fun H => H.size = sz ∧ x_aq G d cap es H ∧ ∀ j, j < cap → ∀ y, es j = some y → isO G y H)) (x_Q (fun r H H1 => ∃ q, r = some (.ref q) ∧ sz ≤ q ∧ x_aq G q N (cut es cap) H1 ∧ x_off (fun _ => False) H H1)) 1 N (fun q => q = d ∨ sz ≤ q) := by
  refine x_wA (Or.inr ⟨_, rfl⟩) (by decide +kernel) (Nat.le_of_ble_eq_true rfl) (fun p e s m args below meth c F hK hP ls hl Q hret => ?_)
  have hl : lv_has ls 4 [(0, .ref d), (1, .int (nI N)), (2, .ref (x_mi G))] := hl
  obtain ⟨hsz, hM, hO⟩ := hP
  have hS : va_S (fun q => q = d ∨ sz ≤ q) s.heap s.heap [] := va_S.rf
  have hd : d < sz := by rw [← hsz]; exact hM.lt
  refine lv_aload_n F.1 F.2.1 d_AR_copyOf3_0 rfl (lv_at hl 2 rfl) ?_
  refine va_ldcM F.1 F.2.1 F.2.2.2.1 (F.2.2.2.2 _ k147) hK.2.2.2.2.1 d_AR_copyOf3_1 ?_
  refine lv_acmp_ne (rx := some (x_mi G)) (ry := some (x_mi G)) (tgt := 13) F.1 F.2.1 d_AR_copyOf3_3 (by decide) (fun z => absurd rfl z) (fun _ => ?_)
  refine lv_iload_n F.1 F.2.1 d_AR_copyOf3_6 rfl (lv_at hl 1 rfl) ?_
  refine x_newaQ (N := N) F hK k149 (by omega) (show 0 + 1 ≤ 1 by omega) (show 0 + N ≤ N by omega) hS d_AR_copyOf3_7 (fun q H1 hq hNw hz1 ho1 hS => ?_)
  have hqd : d ≠ q := by omega
  have hMo := hM
  have hM := va_at.kept hM (ho1 _ hM.lt)
  have hO1 : ∀ j, j < cap → ∀ y, es j = some y → isO G y H1 := fun j hj y hy => (hO j hj y hy).keep (ho1 _ (hO j hj y hy).lt)
  refine lv_goto (tgt := 24) F.1 F.2.1 d_AR_copyOf3_10 (by decide) ?_
  refine lv_astore_n (lv' := [(3, .ref q), (0, .ref d), (1, .int (nI N)), (2, .ref (x_mi G))]) F.1 F.2.1 d_AR_copyOf3_24 rfl hl (by decide) rfl (fun ls hl => ?_)
  refine lv_aload_n F.1 F.2.1 d_AR_copyOf3_25 rfl (lv_at hl 1 rfl) ?_
  refine lv_iconst (v := 0) F.1 F.2.1 d_AR_copyOf3_26 (by decide) ?_
  refine lv_aload_n F.1 F.2.1 d_AR_copyOf3_27 rfl (lv_at hl 0 rfl) ?_
  refine lv_iconst (v := 0) F.1 F.2.1 d_AR_copyOf3_28 (by decide) ?_
  refine lv_aload_n F.1 F.2.1 d_AR_copyOf3_29 rfl (lv_at hl 1 rfl) ?_
  refine x_alen F hK hM 3 rfl d_AR_copyOf3_30 ?_
  refine lv_iload_n F.1 F.2.1 d_AR_copyOf3_31 rfl (lv_at hl 2 rfl) ?_
  refine x_rd (x_S (n := 2) (As := [.int (nI cap), .int (nI N)]) F (c_MA_min l G cap N (by omega) (by omega)) ok_MA_min k150 ⟨Nat.le_of_ble_eq_true rfl, Nat.le_of_ble_eq_true rfl⟩ rfl rfl hK (trivial) rfl hl.1 rfl (Nat.le_of_ble_eq_true rfl) d_AR_copyOf3_32 ⟨Nat.le_refl _, show 0 + N + 0 ≤ N by omega⟩) ?_
  rw [Nat.min_eq_left hcN]
  have hP0 : va_P G.1 x_cl [(d, .inl (G.2.2.2.2, cap, .inr (.inr (.inr (.inr es))))), (q, .inl (G.2.2.2.2, N, .inr (.inr (.inr (.inr (fun _ => none))))))] H1 := x_two hM hNw
  have hD0 : va_D (fun z => z = d ∨ sz ≤ z) [(d, (.inl (G.2.2.2.2, cap, .inr (.inr (.inr (.inr es)))) : va_E)), (q, .inl (G.2.2.2.2, N, .inr (.inr (.inr (.inr (fun _ => none))))))] := by
    refine ⟨fun i j p r h1 h2 h3 => ?_, fun k z hk => ?_⟩
    · match i, j, h1, h2 with
      | 0, 0, _, _ => rfl
      | 1, 1, _, _ => rfl
      | 0, 1, h1, h2 => cases h1; cases h2; exact absurd h3 hqd
      | 1, 0, h1, h2 => cases h1; cases h2; exact absurd h3.symm hqd
      | i + 2, _, h1, _ => simp at h1
      | _, j + 2, _, h2 => simp at h2
    · match k, hk with
      | 0, hk => cases hk; exact Or.inl rfl
      | 1, hk => cases hk; exact Or.inr (by omega)
      | k + 2, hk => simp at hk
  have e0 : (0 : Int32).toNatClampNeg = 0 := by decide
  have ec : (nI cap).toNatClampNeg = cap := nI_clamp (by omega)
  refine va_copyM (q0 := 0) (q1 := 1) (t0 := 3) (t1 := 3) (E0 := "java/lang/Object") (E1 := "java/lang/Object") F.1 F.2.1 (F.2.2.1.trans hl.1.symm) F.2.2.2.1 (F.2.2.2.2 _ k153) (F.2.2.2.2 _ k155) (F.2.2.2.2 _ k154) (F.2.2.2.2 _ k11) hK.1 hP0 hD0 hS rfl rfl rfl rfl (by decide) (by decide) (nI_pos (by omega)) (by rw [e0, ec]; omega) (by rw [e0, ec]; omega) (fun i hi y hy => by rw [ec] at hi; rw [e0, Nat.zero_add] at hy; exact (hO1 i hi y hy).any hK) (Nat.le_of_ble_eq_true rfl) (Nat.le_of_ble_eq_true rfl) d_AR_copyOf3_35 (fun H2 locs2 hP2 hD2 hS => ?_)
  have hq2 : x_aq G q N (cut es cap) H2 := x_aq.cg (hP2 1 _ rfl) (fun j hj => by
    rw [e0, ec]
    unfold va_cpy cut
    by_cases h : j < cap
    · rw [if_pos (by omega), if_pos h]; congr 1; omega
    · rw [if_neg (by omega), if_neg h])
  have hd2 : x_aq G d cap es H2 := hP2 0 _ rfl
  refine lv_aload_n F.1 F.2.1 d_AR_copyOf3_38 rfl (lv_at hl 0 rfl) ?_
  refine hret _ _ _ _ _ _ _ d_AR_copyOf3_39 ⟨q, rfl, by omega, hq2, hS.1, fun z h1 h2 => ?_⟩ hS.2.2 (Nat.le_of_ble_eq_true rfl) (by omega)
  by_cases hzd : z = d
  · subst hzd
    exact Eq.trans hd2 hMo.symm
  · exact hS.2.1 z h1 (fun w => w.elim hzd (fun w => by omega))
theorem c_AR_copyOf2 (l : Launch) (G : x_G) (d cap N : Nat) (es : Nat → Option Nat) (sz : Nat) (hc : cap < 1000) (hN : N < 1000) (hcN : cap ≤ N) : Met l y_AR_copyOf2 (x_ws y_AR_copyOf2 b_AR_copyOf2 2 (some (.array (.object "java/lang/Object")))) (x_rm 2 1 N) (x_P G [.ref d, .int (nI N)] (fun H => H.size = sz ∧ x_aq G d cap es H ∧ ∀ j, j < cap → ∀ y, es j = some y → isO G y H)) (x_Q (fun r H H1 => ∃ q, r = some (.ref q) ∧ sz ≤ q ∧ x_aq G q N (cut es cap) H1 ∧ x_off (fun _ => False) H H1)) 1 N (fun q => q = d ∨ sz ≤ q) := by
  refine x_wA (Or.inr ⟨_, rfl⟩) (by decide +kernel) (Nat.le_of_ble_eq_true rfl) (fun p e s m args below meth c F hK hP ls hl Q hret => ?_)
  have hl : lv_has ls 2 [(0, .ref d), (1, .int (nI N))] := hl
  obtain ⟨hsz, hM, hO⟩ := id hP
  have hS : va_S (fun q => q = d ∨ sz ≤ q) s.heap s.heap [] := va_S.rf
  refine lv_aload_n F.1 F.2.1 d_AR_copyOf2_0 rfl (lv_at hl 0 rfl) ?_
  refine lv_iload_n F.1 F.2.1 d_AR_copyOf2_1 rfl (lv_at hl 1 rfl) ?_
  refine lv_aload_n F.1 F.2.1 d_AR_copyOf2_2 rfl (lv_at hl 0 rfl) ?_
  refine va_getC (C := "[Ljava/lang/Object;") F.1 F.2.1 (F.2.2.1.trans hl.1.symm) F.2.2.2.1 (F.2.2.2.2 _ k133) (va_Dc.use hK.2.2.2.1) (F.2.2.2.2 _ k689) (F.2.2.2.2 _ k134) (F.2.2.2.2 _ k143) hK.2.2.2.2.1 ⟨_, hM, rfl, va_nmO (hK.1.2 3 _ rfl).2 rfl⟩ (Nat.le_of_ble_eq_true rfl) (Nat.le_of_ble_eq_true rfl) d_AR_copyOf2_3 ?_
  refine x_wr (x_S (n := 3) (As := [.ref d, .int (nI N), .ref (x_mi G)]) F (c_AR_copyOf3 l G d cap N es sz hc hN hcN) ok_AR_copyOf3 k144 ⟨Nat.le_of_ble_eq_true rfl, Nat.le_of_ble_eq_true rfl⟩ rfl rfl hK (hP) rfl hl.1 rfl (Nat.le_of_ble_eq_true rfl) d_AR_copyOf2_6 ⟨show 0 + 1 ≤ 1 by omega, show 0 + N ≤ N by omega⟩) hS (fun _ h => h) (fun _ _ h => by obtain ⟨q, -, -, -, ho⟩ := h; exact ho.mono (fun _ z => z.elim)) (fun v H5 locs hpost hS => ?_)
  obtain ⟨q, rfl, h1, h2, h3⟩ := hpost
  exact hret _ _ _ _ _ _ _ d_AR_copyOf2_9 ⟨q, rfl, h1, h2, h3⟩ hS.2.2 (Nat.le_of_ble_eq_true rfl) (by omega)
end
section
/-! ===== ArrayList.add ===== -/
theorem c_AL_growI_0 (l : Launch) (G : x_G) (a sz : Nat) (mo : Int32) (n1 : x_sa G ≠ a) (n2 : x_t G ≠ a) : Met l y_AL_growI (x_ws y_AL_growI b_AL_growI 4 (some (.array (.object "java/lang/Object")))) (x_rm 3 1 60) (x_P G [.ref a, .int (nI 1)] (fun H => H.size = sz ∧ x_Hs G H ∧ va_at G.1 x_cl (a, .inr (0, [.int mo, .ref (x_t G), .int (nI 0)])) H)) (x_Q (fun r H H1 => ∃ q, r = some (.ref q) ∧ sz ≤ q ∧ a ≠ q ∧ x_aq G q 10 (fun _ => none) H1 ∧ va_at G.1 x_cl (a, .inr (0, [.int mo, .ref q, .int (nI 0)])) H1 ∧ x_off (fun q => q = a) H H1)) 1 60 (fun q => q = a ∨ sz ≤ q) := by
  refine x_wA (Or.inr ⟨_, rfl⟩) (by decide +kernel) (Nat.le_of_ble_eq_true rfl) (fun p e s m args below meth c F hK hP ls hl Q hret => ?_)
  have hl : lv_has ls 4 [(0, .ref a), (1, .int (nI 1))] := hl
  obtain ⟨hsz, hZ, hT⟩ := hP
  have hS : va_S (fun q => q = a ∨ sz ≤ q) s.heap s.heap [] := va_S.rf
  refine lv_aload_n F.1 F.2.1 d_AL_growI_0 rfl (lv_at hl 0 rfl) ?_
  refine x_get F hK hT rfl i_AL 1 (by decide) k39 rfl rfl d_AL_growI_1 ?_
  refine x_tlen F hK hZ d_AL_growI_4 ?_
  refine lv_istore_n (lv' := [(2, .int (nI 0)), (0, .ref a), (1, .int (nI 1))]) F.1 F.2.1 d_AL_growI_5 rfl hl (by decide) rfl (fun ls hl => ?_)
  refine lv_iload_n F.1 F.2.1 d_AL_growI_6 rfl (lv_at hl 0 rfl) ?_
  refine lv_if_gt (tgt := 20) F.1 F.2.1 d_AL_growI_7 (by decide) (fun zq => absurd zq (pN_nlt (a := 0) (b := 0) rfl rfl (by omega) (by omega) (by omega))) (fun _ => ?_)
  refine lv_aload_n F.1 F.2.1 d_AL_growI_10 rfl (lv_at hl 1 rfl) ?_
  refine x_get F hK hT rfl i_AL 1 (by decide) k39 rfl rfl d_AL_growI_11 ?_
  refine x_gets F hK hZ k37 d_AL_growI_14 ?_
  refine lv_acmp_eq (rx := some (x_t G)) (ry := some (x_t G)) (tgt := 45) F.1 F.2.1 d_AL_growI_17 (by decide) (fun _ => ?_) (fun zq => absurd rfl zq)
  refine lv_aload_n F.1 F.2.1 d_AL_growI_45 rfl (lv_at hl 1 rfl) ?_
  refine lv_bipush (v := 10) F.1 F.2.1 d_AL_growI_46 (by decide) ?_
  refine lv_iload_n F.1 F.2.1 d_AL_growI_48 rfl (lv_at hl 2 rfl) ?_
  refine x_rd (x_S (n := 2) (As := [.int 10, .int (nI 1)]) F (c_MA_max l G 10 1 (by decide) (by decide)) ok_MA_max k156 ⟨Nat.le_of_ble_eq_true rfl, Nat.le_of_ble_eq_true rfl⟩ rfl rfl hK (trivial) rfl hl.1 rfl (Nat.le_of_ble_eq_true rfl) d_AL_growI_49 ⟨Nat.le_of_ble_eq_true rfl, Nat.le_of_ble_eq_true rfl⟩) ?_
  refine x_newaQ (N := 10) F hK k157 (by omega) (show 0 + 1 ≤ 1 by omega) (show 0 + 10 ≤ 60 by omega) hS d_AL_growI_52 (fun q H1 hq hNw hz1 ho1 hS => ?_)
  have hqa : a ≠ q := by have := hT.lt; dsimp only at this; omega
  have hT := va_at.kept hT (ho1 _ hT.lt)
  refine lv_dup_x1 F.1 F.2.1 d_AL_growI_55 rfl rfl ?_
  refine x_put F hK hT rfl i_AL t_AL p_AL n_AL 1 (by decide) k39 rfl rfl rfl rfl (Nat.le_of_ble_eq_true rfl) hS (Or.inl rfl) d_AL_growI_56 (fun H1 locs hT hz1 ho1 hS => ?_)
  have hT : va_at G.1 x_cl (a, .inr (0, [.int mo, .ref q, .int (nI 0)])) H1 := hT
  have hNw := va_at.kept hNw (ho1 _ (Ne.symm hqa))
  exact hret _ _ _ _ _ _ _ d_AL_growI_59 ⟨q, rfl, by omega, hqa, hNw, hT, hS.1, fun z h1 h2 => hS.2.1 z h1 (fun w => w.elim h2 (fun w => by omega))⟩ hS.2.2 (Nat.le_of_ble_eq_true rfl) (Nat.le_of_ble_eq_true rfl)
theorem c_AL_growI_n (l : Launch) (G : x_G) (a d cap sz : Nat) (mo : Int32) (es : Nat → Option Nat) (h10 : 10 ≤ cap) (h40 : cap ≤ 40) (had : a ≠ d) : Met l y_AL_growI (x_ws y_AL_growI b_AL_growI 4 (some (.array (.object "java/lang/Object")))) (x_rm 3 1 60) (x_P G [.ref a, .int (nI (cap + 1))] (fun H => H.size = sz ∧ x_aq G d cap es H ∧ (∀ j, j < cap → ∀ y, es j = some y → isO G y H) ∧ va_at G.1 x_cl (a, .inr (0, [.int mo, .ref d, .int (nI cap)])) H)) (x_Q (fun r H H1 => ∃ q, r = some (.ref q) ∧ sz ≤ q ∧ a ≠ q ∧ x_aq G q (cap + cap / 2) (cut es cap) H1 ∧ va_at G.1 x_cl (a, .inr (0, [.int mo, .ref q, .int (nI cap)])) H1 ∧ x_off (fun q => q = a) H H1)) 1 60 (fun q => (q = a ∨ q = d) ∨ sz ≤ q) := by
  refine x_wA (Or.inr ⟨_, rfl⟩) (by decide +kernel) (Nat.le_of_ble_eq_true rfl) (fun p e s m args below meth c F hK hP ls hl Q hret => ?_)
  have hl : lv_has ls 4 [(0, .ref a), (1, .int (nI (cap + 1)))] := hl
  obtain ⟨hsz, hM, hO, hT⟩ := hP
  have hS : va_S (fun q => (q = a ∨ q = d) ∨ sz ≤ q) s.heap s.heap [] := va_S.rf
  refine lv_aload_n F.1 F.2.1 d_AL_growI_0 rfl (lv_at hl 0 rfl) ?_
  refine x_get F hK hT rfl i_AL 1 (by decide) k39 rfl rfl d_AL_growI_1 ?_
  refine x_alen F hK hM 3 rfl d_AL_growI_4 ?_
  refine lv_istore_n (lv' := [(2, .int (nI cap)), (0, .ref a), (1, .int (nI (cap + 1)))]) F.1 F.2.1 d_AL_growI_5 rfl hl (by decide) rfl (fun ls hl => ?_)
  refine lv_iload_n F.1 F.2.1 d_AL_growI_6 rfl (lv_at hl 0 rfl) ?_
  refine lv_if_gt (tgt := 20) F.1 F.2.1 d_AL_growI_7 (by decide) (fun _ => ?_) (fun zq => absurd (pN_lt (a := 0) (b := cap) rfl rfl (by omega) (by omega) (by omega)) zq)
  refine lv_iload_n F.1 F.2.1 d_AL_growI_20 rfl (lv_at hl 0 rfl) ?_
  refine lv_iload_n F.1 F.2.1 d_AL_growI_21 rfl (lv_at hl 2 rfl) ?_
  refine lv_iload_n F.1 F.2.1 d_AL_growI_22 rfl (lv_at hl 0 rfl) ?_
  refine lv_isub F.1 F.2.1 d_AL_growI_23 ?_
  refine lv_iload_n F.1 F.2.1 d_AL_growI_24 rfl (lv_at hl 0 rfl) ?_
  refine lv_iconst (v := 1) F.1 F.2.1 d_AL_growI_25 (by decide) ?_
  refine lv_ishr F.1 F.2.1 d_AL_growI_26 ?_
  rw [show nI (cap + 1) - nI cap = nI 1 from (by rw [pk_sub (by omega)]; congr 1; omega), show nI cap >>> ((1 : Int32) &&& 31) = nI (cap / 2) from (pk_shrN (n := cap) (by omega) ((1 : Int32) &&& 31) 1 (by decide))]
  refine x_rd (x_S (n := 3) (As := [.int (nI cap), .int (nI 1), .int (nI (cap / 2))]) F (c_SU_newLength l G cap 1 (cap / 2) (by omega) (by decide) (by omega) (by omega)) ok_SU_newLength k120 ⟨Nat.le_of_ble_eq_true rfl, Nat.le_of_ble_eq_true rfl⟩ rfl rfl hK (trivial) rfl hl.1 rfl (Nat.le_of_ble_eq_true rfl) d_AL_growI_27 ⟨Nat.le_of_ble_eq_true rfl, Nat.le_of_ble_eq_true rfl⟩) ?_
  rw [Nat.max_eq_right (show 1 ≤ cap / 2 by omega)]
  refine lv_istore_n (lv' := [(3, .int (nI (cap + cap / 2))), (2, .int (nI cap)), (0, .ref a), (1, .int (nI (cap + 1)))]) F.1 F.2.1 d_AL_growI_30 rfl hl (by decide) rfl (fun ls hl => ?_)
  refine lv_aload_n F.1 F.2.1 d_AL_growI_31 rfl (lv_at hl 2 rfl) ?_
  refine lv_aload_n F.1 F.2.1 d_AL_growI_32 rfl (lv_at hl 2 rfl) ?_
  refine x_get F hK hT rfl i_AL 1 (by decide) k39 rfl rfl d_AL_growI_33 ?_
  refine lv_iload_n F.1 F.2.1 d_AL_growI_36 rfl (lv_at hl 0 rfl) ?_
  refine x_wr (x_S (n := 2) (As := [.ref d, .int (nI (cap + cap / 2))]) F (c_AR_copyOf2 l G d cap (cap + cap / 2) es sz (by omega) (by omega) (by omega)) ok_AR_copyOf2 k130 ⟨Nat.le_of_ble_eq_true rfl, Nat.le_of_ble_eq_true rfl⟩ rfl rfl hK (⟨hsz, hM, hO⟩) rfl hl.1 rfl (Nat.le_of_ble_eq_true rfl) d_AL_growI_37 ⟨show 0 + 1 ≤ 1 by omega, show 0 + (cap + cap / 2) ≤ 60 by omega⟩) hS (fun q h => h.elim (fun h => Or.inl (Or.inr h)) Or.inr) (fun _ _ h => by obtain ⟨q, -, -, -, ho⟩ := h; exact ho.mono (fun _ z => z.elim)) (fun v H2 locs hpost hS => ?_)
  obtain ⟨q, rfl, hq, hNw, ho⟩ := hpost
  have hqa : a ≠ q := by have := hT.lt; dsimp only at this; omega
  have hT := x_keep hT ho (fun z => z)
  refine lv_dup_x1 F.1 F.2.1 d_AL_growI_40 rfl rfl ?_
  refine x_put F hK hT rfl i_AL t_AL p_AL n_AL 1 (by decide) k39 rfl rfl rfl rfl (Nat.le_of_ble_eq_true rfl) hS (Or.inl (Or.inl rfl)) d_AL_growI_41 (fun H3 locs hT hz3 ho3 hS => ?_)
  have hT : va_at G.1 x_cl (a, .inr (0, [.int mo, .ref q, .int (nI cap)])) H3 := hT
  have hNw := va_at.kept hNw (ho3 _ (Ne.symm hqa))
  exact hret _ _ _ _ _ _ _ d_AL_growI_44 ⟨q, rfl, hq, hqa, hNw, hT, Nat.le_trans ho.1 (by rw [hz3]; exact Nat.le_refl _), fun z h1 h2 => (ho3 z h2).trans (ho.2 z h1 (fun z => z))⟩ hS.2.2 (Nat.le_of_ble_eq_true rfl) (show 0 + (cap + cap / 2) ≤ 60 by omega)
theorem c_AL_grow0_0 (l : Launch) (G : x_G) (a sz : Nat) (mo : Int32) (n1 : x_sa G ≠ a) (n2 : x_t G ≠ a) : Met l y_AL_grow0 (x_ws y_AL_grow0 b_AL_grow0 1 (some (.array (.object "java/lang/Object")))) (x_rm 4 1 60) (x_P G [.ref a] (fun H => H.size = sz ∧ x_Hs G H ∧ va_at G.1 x_cl (a, .inr (0, [.int mo, .ref (x_t G), .int (nI 0)])) H)) (x_Q (fun r H H1 => ∃ q, r = some (.ref q) ∧ sz ≤ q ∧ a ≠ q ∧ x_aq G q 10 (fun _ => none) H1 ∧ va_at G.1 x_cl (a, .inr (0, [.int mo, .ref q, .int (nI 0)])) H1 ∧ x_off (fun q => q = a) H H1)) 1 60 (fun q => q = a ∨ sz ≤ q) := by
  refine x_wA (Or.inr ⟨_, rfl⟩) (by decide +kernel) (Nat.le_of_ble_eq_true rfl) (fun p e s m args below meth c F hK hP ls hl Q hret => ?_)
  have hl : lv_has ls 1 [(0, .ref a)] := hl
  obtain ⟨hsz, hZ, hT⟩ := id hP
  have hS : va_S (fun q => q = a ∨ sz ≤ q) s.heap s.heap [] := va_S.rf
  refine lv_aload_n F.1 F.2.1 d_AL_grow0_0 rfl (lv_at hl 0 rfl) ?_
  refine lv_aload_n F.1 F.2.1 d_AL_grow0_1 rfl (lv_at hl 0 rfl) ?_
  refine x_get F hK hT rfl i_AL 2 (by decide) k40 rfl rfl d_AL_grow0_2 ?_
  refine lv_iconst (v := 1) F.1 F.2.1 d_AL_grow0_5 (by decide) ?_
  refine lv_iadd F.1 F.2.1 d_AL_grow0_6 ?_
  refine x_wr (x_V (n := 1) (As := [.int (nI 1)]) F (c_AL_growI_0 l G a sz mo n1 n2) ok_AL_growI k116 ⟨Nat.le_of_ble_eq_true rfl, Nat.le_of_ble_eq_true rfl⟩ rfl rfl hK (x_rcv hK hT rfl) (hP) rfl hl.1 rfl (Nat.le_of_ble_eq_true rfl) d_AL_grow0_7 ⟨show 0 + 1 ≤ 1 by omega, show 0 + 60 ≤ 60 by omega⟩) hS (fun _ h => h) (fun _ _ h => by obtain ⟨q, -, -, -, -, -, ho⟩ := h; exact ho.mono (fun _ z => Or.inl z)) (fun v H4 locs hpost hS => ?_)
  obtain ⟨q, rfl, hpost⟩ := hpost
  exact hret _ _ _ _ _ _ _ d_AL_grow0_10 ⟨q, rfl, hpost⟩ hS.2.2 (Nat.le_of_ble_eq_true rfl) (Nat.le_of_ble_eq_true rfl)
theorem c_AL_grow0_n (l : Launch) (G : x_G) (a d cap sz : Nat) (mo : Int32) (es : Nat → Option Nat) (h10 : 10 ≤ cap) (h40 : cap ≤ 40) (had : a ≠ d) : Met l y_AL_grow0 (x_ws y_AL_grow0 b_AL_grow0 1 (some (.array (.object "java/lang/Object")))) (x_rm 4 1 60) (x_P G [.ref a] (fun H => H.size = sz ∧ x_aq G d cap es H ∧ (∀ j, j < cap → ∀ y, es j = some y → isO G y H) ∧ va_at G.1 x_cl (a, .inr (0, [.int mo, .ref d, .int (nI cap)])) H)) (x_Q (fun r H H1 => ∃ q, r = some (.ref q) ∧ sz ≤ q ∧ a ≠ q ∧ x_aq G q (cap + cap / 2) (cut es cap) H1 ∧ va_at G.1 x_cl (a, .inr (0, [.int mo, .ref q, .int (nI cap)])) H1 ∧ x_off (fun q => q = a) H H1)) 1 60 (fun q => (q = a ∨ q = d) ∨ sz ≤ q) := by
  refine x_wA (Or.inr ⟨_, rfl⟩) (by decide +kernel) (Nat.le_of_ble_eq_true rfl) (fun p e s m args below meth c F hK hP ls hl Q hret => ?_)
  have hl : lv_has ls 1 [(0, .ref a)] := hl
  obtain ⟨hsz, hM, hO, hT⟩ := id hP
  have hS : va_S (fun q => (q = a ∨ q = d) ∨ sz ≤ q) s.heap s.heap [] := va_S.rf
  refine lv_aload_n F.1 F.2.1 d_AL_grow0_0 rfl (lv_at hl 0 rfl) ?_
  refine lv_aload_n F.1 F.2.1 d_AL_grow0_1 rfl (lv_at hl 0 rfl) ?_
  refine x_get F hK hT rfl i_AL 2 (by decide) k40 rfl rfl d_AL_grow0_2 ?_
  refine lv_iconst (v := 1) F.1 F.2.1 d_AL_grow0_5 (by decide) ?_
  refine lv_iadd F.1 F.2.1 d_AL_grow0_6 ?_
  rw [nI_1]
  refine x_wr (x_V (n := 1) (As := [.int (nI (cap + 1))]) F (c_AL_growI_n l G a d cap sz mo es h10 h40 had) ok_AL_growI k116 ⟨Nat.le_of_ble_eq_true rfl, Nat.le_of_ble_eq_true rfl⟩ rfl rfl hK (x_rcv hK hT rfl) (hP) rfl hl.1 rfl (Nat.le_of_ble_eq_true rfl) d_AL_grow0_7 ⟨show 0 + 1 ≤ 1 by omega, show 0 + 60 ≤ 60 by omega⟩) hS (fun _ h => h) (fun _ _ h => by obtain ⟨q, -, -, -, -, -, ho⟩ := h; exact ho.mono (fun _ z => Or.inl (Or.inl z))) (fun v H5 locs hpost hS => ?_)
  obtain ⟨q, rfl, hpost⟩ := hpost
  exact hret _ _ _ _ _ _ _ d_AL_grow0_10 ⟨q, rfl, hpost⟩ hS.2.2 (Nat.le_of_ble_eq_true rfl) (Nat.le_of_ble_eq_true rfl)
/-- what add leaves: the list with v behind -/
def ALadd (G : x_G) (a d n sz v : Nat) (es : Nat → Option Nat) (H H1 : Heap) : Prop := (∃ (d' cap' : Nat) (es' : Nat → Option Nat), AL G a d' cap' (n + 1) es' H1 ∧ (∀ j, j < n → es' j = es j) ∧ es' n = some v ∧ ((d' = d ∧ d ≠ x_t G) ∨ sz ≤ d')) ∧ x_off (fun q => q = a ∨ (q = d ∧ d ≠ x_t G)) H H1
theorem c_AL_add3 (l : Launch) (G : x_G) (a d cap n v sz : Nat) (mo : Int32) (es : Nat → Option Nat) (hn : n ≤ 40) (n1 : x_sa G ≠ a) (n2 : x_t G ≠ a) (hts : x_t G < sz) : Met l y_AL_add3 (x_ws y_AL_add3 b_AL_add3 4 none) (x_rm 5 1 60) (x_P G [.ref a, .ref v, .ref d, .int (nI n)] (fun H => H.size = sz ∧ x_Hs G H ∧ isO G v H ∧ a ≠ v ∧ d ≠ v ∧ (∀ j, j < cap → ∀ y, es j = some y → isO G y H) ∧ AL G a d cap n es H ∧ va_at G.1 x_cl (a, .inr (0, [.int mo, .ref d, .int (nI n)])) H)) (x_Q (fun r H H1 => r = none ∧ ALadd G a d n sz v es H H1)) 1 60 (fun q => (q = a ∨ (q = d ∧ d ≠ x_t G)) ∨ sz ≤ q) := by
  refine x_wV (by decide +kernel) (Nat.le_of_ble_eq_true rfl) (fun p e s m args below meth c F hnm hK hP ls hl Q hret => ?_)
  have hl : lv_has ls 4 [(0, .ref a), (1, .ref v), (2, .ref d), (3, .int (nI n))] := hl
  obtain ⟨hsz, hZ, hv, hav, hdv, hO, ⟨-, had, hA, hc⟩, hT⟩ := hP
  have hS : va_S (fun q => (q = a ∨ (q = d ∧ d ≠ x_t G)) ∨ sz ≤ q) s.heap s.heap [] := va_S.rf
  have hvs : v < sz := by rw [← hsz]; exact hv.lt
  have fin : ∀ (q N : Nat) (es' : Nat → Option Nat) (H : Heap) (locs : List Loc) (cells slots : Nat), cells ≤ 1 → slots ≤ 60 → a ≠ q → q ≠ v → n < N → N < 1000 → 10 ≤ N → ((q = d ∧ d ≠ x_t G) ∨ sz ≤ q) → (∀ j, j < n → es' j = es j) → x_aq G q N es' H → va_at G.1 x_cl (a, .inr (0, [.int mo, .ref q, .int (nI n)])) H → isO G v H → va_S (fun q => (q = a ∨ (q = d ∧ d ≠ x_t G)) ∨ sz ≤ q) s.heap H locs → ∀ ls : Array Slot, lv_has ls 4 [(2, .ref q), (0, .ref a), (1, .ref v), (3, .int (nI n))] → W p l e (x_rm 5 1 60) s m args below meth c H locs cells slots Q (F0 m 11 ls []) := by
    intro q N es' H locs cells slots hce hsl haq hqv hnN hN h10 hqd hes hM hT hv hS ls hl
    have hAq : (q = a ∨ (q = d ∧ d ≠ x_t G)) ∨ sz ≤ q := hqd.elim (fun h => Or.inl (Or.inr h)) Or.inr
    refine lv_aload_n F.1 F.2.1 d_AL_add3_11 rfl (lv_at hl 0 rfl) ?_
    refine lv_iload_n F.1 F.2.1 d_AL_add3_12 rfl (lv_at hl 3 rfl) ?_
    refine lv_aload_n F.1 F.2.1 d_AL_add3_13 rfl (lv_at hl 2 rfl) ?_
    refine x_qast F hK hM hv (by omega) hnN hS hAq d_AL_add3_14 (fun H1 locs hM hz1 ho1 hS => ?_)
    have hT := va_at.kept hT (ho1 _ haq)
    refine lv_aload_n F.1 F.2.1 d_AL_add3_15 rfl (lv_at hl 1 rfl) ?_
    refine lv_iload_n F.1 F.2.1 d_AL_add3_16 rfl (lv_at hl 3 rfl) ?_
    refine lv_iconst (v := 1) F.1 F.2.1 d_AL_add3_17 (by decide) ?_
    refine lv_iadd F.1 F.2.1 d_AL_add3_18 ?_
    rw [nI_1]
    refine x_put F hK hT rfl i_AL t_AL p_AL n_AL 2 (by decide) k40 rfl rfl rfl rfl (Nat.le_of_ble_eq_true rfl) hS (Or.inl (Or.inl rfl)) d_AL_add3_19 (fun H6 locs hT hz6 ho6 hS => ?_)
    have hT : va_at G.1 x_cl (a, .inr (0, [.int mo, .ref q, .int (nI (n + 1))])) H6 := hT
    have hM := va_at.kept hM (ho6 _ (Ne.symm haq))
    refine hret _ _ _ _ _ _ d_AL_add3_22 ⟨rfl, ⟨q, N, va_up es' n (some v), ⟨⟨mo, hT⟩, haq, Or.inr ⟨hM, by omega, h10⟩, hN⟩, fun j hj => ?_, va_up_self _ _ _, hqd⟩, hS.1, fun z h1 h2 => hS.2.1 z h1 (fun w => w.elim h2 (fun w => by omega))⟩ hS.2.2 hce hsl
    rw [va_up_ne _ _ (show j ≠ n by omega)]
    exact hes j hj
  rcases hA with ⟨rfl, rfl⟩ | ⟨hM, hnc, h10⟩
  · skip
    refine lv_iload_n F.1 F.2.1 d_AL_add3_0 rfl (lv_at hl 3 rfl) ?_
    refine lv_aload_n F.1 F.2.1 d_AL_add3_1 rfl (lv_at hl 2 rfl) ?_
    refine x_tlen F hK hZ d_AL_add3_2 ?_
    refine lv_icmp_ne (tgt := 11) F.1 F.2.1 d_AL_add3_3 (by decide) (fun zq => absurd (pN_eq (a := 0) (b := 0) rfl rfl (by omega) (by omega) (by omega)) zq) (fun _ => ?_)
    refine lv_aload_n F.1 F.2.1 d_AL_add3_6 rfl (lv_at hl 0 rfl) ?_
    refine x_wr (x_V (n := 0) (As := []) F (c_AL_grow0_0 l G a sz mo n1 n2) ok_AL_grow0 k112 ⟨Nat.le_of_ble_eq_true rfl, Nat.le_of_ble_eq_true rfl⟩ rfl rfl hK (x_rcv hK hT rfl) (⟨hsz, hZ, hT⟩) rfl hl.1 rfl (Nat.le_of_ble_eq_true rfl) d_AL_add3_7 ⟨show 0 + 1 ≤ 1 by omega, show 0 + 60 ≤ 60 by omega⟩) hS (fun q h => h.elim (fun h => Or.inl (Or.inl h)) Or.inr) (fun _ _ h => by obtain ⟨q, -, -, -, -, -, ho⟩ := h; exact ho.mono (fun _ z => Or.inl (Or.inl z))) (fun v H7 locs hpost hS => ?_)
    obtain ⟨q, rfl, hq, haq, hNw, hT, ho⟩ := hpost
    have hv := hv.keep (ho.2 _ hv.lt (Ne.symm hav))
    refine lv_astore_n (lv' := [(2, .ref q), (0, .ref a), (1, .ref v), (3, .int (nI 0))]) F.1 F.2.1 d_AL_add3_10 rfl hl (by decide) rfl (fun ls hl => ?_)
    exact fin q 10 (fun _ => none) _ _ _ _ (by omega) (by omega) haq (by omega) (by decide) (by decide) (Nat.le_refl _) (Or.inr hq) (fun j hj => absurd hj (Nat.not_lt_zero j)) hNw hT hv hS ls hl
  · skip
    have hdt : d ≠ x_t G := by
      intro h
      obtain ⟨-, scr, b1, -, -, -, b5⟩ := hZ
      have hM' : s.heap[d]? = some (vp_cell G.2.2.2.2 (cap, .inr (.inr (.inr (.inr es))))) := hM
      rw [h, b1] at hM'
      have := Option.some.inj hM'
      rw [this, vp_cell_q, arrV_size] at b5
      omega
    refine lv_iload_n F.1 F.2.1 d_AL_add3_0 rfl (lv_at hl 3 rfl) ?_
    refine lv_aload_n F.1 F.2.1 d_AL_add3_1 rfl (lv_at hl 2 rfl) ?_
    refine x_alen F hK hM 3 rfl d_AL_add3_2 ?_
    refine lv_icmp_ne (tgt := 11) F.1 F.2.1 d_AL_add3_3 (by decide) (fun c3 => ?_) (fun c3 => ?_)
    · have c3 := mt (pN_eqI (a := n) (b := cap) rfl rfl (by omega) (by omega)).mpr c3
      exact fin d cap es _ _ _ _ (by omega) (by omega) had hdv (by omega) hc h10 (Or.inl ⟨rfl, hdt⟩) (fun _ _ => rfl) hM hT hv hS ls (lv_sub hl [2, 0, 1, 3] rfl)
    · have c3 := (pN_eqI (a := n) (b := cap) rfl rfl (by omega) (by omega)).mp c3
      obtain rfl : n = cap := by omega
      refine lv_aload_n F.1 F.2.1 d_AL_add3_6 rfl (lv_at hl 0 rfl) ?_
      refine x_wr (x_V (n := 0) (As := []) F (c_AL_grow0_n l G a d n sz mo es h10 hn had) ok_AL_grow0 k112 ⟨Nat.le_of_ble_eq_true rfl, Nat.le_of_ble_eq_true rfl⟩ rfl rfl hK (x_rcv hK hT rfl) (⟨hsz, hM, hO, hT⟩) rfl hl.1 rfl (Nat.le_of_ble_eq_true rfl) d_AL_add3_7 ⟨show 0 + 1 ≤ 1 by omega, show 0 + 60 ≤ 60 by omega⟩) hS (fun q h => h.elim (fun h => h.elim (fun h => Or.inl (Or.inl h)) (fun h => Or.inl (Or.inr ⟨h, hdt⟩))) Or.inr) (fun _ _ h => by obtain ⟨q, -, -, -, -, -, ho⟩ := h; exact ho.mono (fun _ z => Or.inl (Or.inl z))) (fun v H8 locs hpost hS => ?_)
      obtain ⟨q, rfl, hq, haq, hNw, hT, ho⟩ := hpost
      have hv := hv.keep (ho.2 _ hv.lt (Ne.symm hav))
      refine lv_astore_n (lv' := [(2, .ref q), (0, .ref a), (1, .ref v), (3, .int (nI n))]) F.1 F.2.1 d_AL_add3_10 rfl hl (by decide) rfl (fun ls hl => ?_)
      exact fin q (n + n / 2) (cut es n) _ _ _ _ (by omega) (by omega) haq (by omega) (by omega) (by omega) (by omega) (Or.inr hq) (fun j hj => if_pos hj) hNw hT hv hS ls hl
theorem c_AL_add1 (l : Launch) (G : x_G) (a d cap n v sz : Nat) (es : Nat → Option Nat) (hn : n ≤ 40) (n1 : x_sa G ≠ a) (n2 : x_t G ≠ a) (hts : x_t G < sz) : Met l y_AL_add1 (x_ws y_AL_add1 b_AL_add1 2 (some .boolean)) (x_rm 6 1 60) (x_P G [.ref a, .ref v] (fun H => H.size = sz ∧ x_Hs G H ∧ isO G v H ∧ a ≠ v ∧ d ≠ v ∧ (∀ j, j < cap → ∀ y, es j = some y → isO G y H ∧ y ≠ a) ∧ AL G a d cap n es H)) (x_Q (fun r H H1 => r = some (.int (x_b true)) ∧ ALadd G a d n sz v es H H1)) 1 60 (fun q => (q = a ∨ (q = d ∧ d ≠ x_t G)) ∨ sz ≤ q) := by
  refine x_wZ (by decide +kernel) (Nat.le_of_ble_eq_true rfl) (fun p e s m args below meth c F hK hP ls hl Q hret => ?_)
  have hl : lv_has ls 2 [(0, .ref a), (1, .ref v)] := hl
  obtain ⟨hsz, hZ, hv, hav, hdv, hO, ⟨⟨mo, hT⟩, had, hA, hc⟩⟩ := hP
  have hS : va_S (fun q => (q = a ∨ (q = d ∧ d ≠ x_t G)) ∨ sz ≤ q) s.heap s.heap [] := va_S.rf
  refine lv_aload_n F.1 F.2.1 d_AL_add1_0 rfl (lv_at hl 0 rfl) ?_
  refine lv_dup F.1 F.2.1 d_AL_add1_1 rfl ?_
  refine x_getM F hK hT d_AL_add1_2 ?_
  refine lv_iconst (v := 1) F.1 F.2.1 d_AL_add1_5 (by decide) ?_
  refine lv_iadd F.1 F.2.1 d_AL_add1_6 ?_
  refine x_putM F hK hT d_AL_add1_7 hS (Or.inl (Or.inl rfl)) (fun H1 locs hT hz1 ho1 hS => ?_)
  refine lv_aload_n F.1 F.2.1 d_AL_add1_10 rfl (lv_at hl 0 rfl) ?_
  refine lv_aload_n F.1 F.2.1 d_AL_add1_11 rfl (lv_at hl 1 rfl) ?_
  refine lv_aload_n F.1 F.2.1 d_AL_add1_12 rfl (lv_at hl 0 rfl) ?_
  refine x_get F hK hT rfl i_AL 1 (by decide) k39 rfl rfl d_AL_add1_13 ?_
  refine lv_aload_n F.1 F.2.1 d_AL_add1_16 rfl (lv_at hl 0 rfl) ?_
  refine x_get F hK hT rfl i_AL 2 (by decide) k40 rfl rfl d_AL_add1_17 ?_
  have hoA : x_off (fun q => q = a) s.heap H1 := ⟨by rw [hz1]; exact Nat.le_refl _, fun q _ h => ho1 q h⟩
  have hA1 : (d = x_t G ∧ n = 0) ∨ (x_aq G d cap es H1 ∧ n ≤ cap ∧ 10 ≤ cap) := hA.elim Or.inl (fun h => Or.inr ⟨x_keep h.1 hoA (Ne.symm had), h.2⟩)
  refine x_wr (x_V (n := 3) (As := [.ref v, .ref d, .int (nI n)]) F (c_AL_add3 l G a d cap n v sz (mo + 1) es hn n1 n2 hts) ok_AL_add3 k108 ⟨Nat.le_of_ble_eq_true rfl, Nat.le_of_ble_eq_true rfl⟩ rfl rfl hK (x_rcv hK hT rfl) (⟨hz1.trans hsz, hZ.keep hoA n1 n2, hv.keep (ho1 _ (Ne.symm hav)), hav, hdv, fun j hj y hy => (hO j hj y hy).1.keep (ho1 _ (hO j hj y hy).2), ⟨⟨_, hT⟩, had, hA1, hc⟩, hT⟩) rfl hl.1 rfl (Nat.le_of_ble_eq_true rfl) d_AL_add1_20 ⟨show 0 + 1 ≤ 1 by omega, show 0 + 60 ≤ 60 by omega⟩) hS (fun _ h => h) (fun _ _ h => h.2.2.mono (fun _ z => Or.inl z)) (fun v H9 locs hpost hS => ?_)
  obtain ⟨rfl, hx, ho⟩ := hpost
  refine lv_iconst (v := 1) F.1 F.2.1 d_AL_add1_23 (by decide) ?_
  exact hret _ _ _ true _ _ _ _ d_AL_add1_24 rfl ⟨rfl, hx, (hoA.mono (fun _ z => Or.inl z)).tr ho⟩ hS.2.2 (Nat.le_of_ble_eq_true rfl) (Nat.le_of_ble_eq_true rfl)
end
section
/-! ===== the state that the model and the class stand for: made, parent, tree, holds, tags, again ===== -/
abbrev Sg : Type := Nat × (Nat → Nat) × (Nat → Nat → Int64) × (Nat → Nat → Bool) × (Nat → Nat → Nat) × Int32
abbrev gn (σ : Sg) : Nat := σ.1
abbrev gp (σ : Sg) : Nat → Nat := σ.2.1
abbrev gt (σ : Sg) : Nat → Nat → Int64 := σ.2.2.1
abbrev gh (σ : Sg) : Nat → Nat → Bool := σ.2.2.2.1
abbrev gg (σ : Sg) : Nat → Nat → Nat := σ.2.2.2.2.1
abbrev ga (σ : Sg) : Int32 := σ.2.2.2.2.2
/-- what holds of it always -/
def gOk (σ : Sg) : Prop := 1 ≤ gn σ ∧ gn σ ≤ 40 ∧ (∀ i, 0 < i → gp σ i < i) ∧ (∀ i, i < gn σ → tOk (gt σ i)) ∧ gt σ 0 = tBare ∧ (∀ s, s < 2 → gh σ s 0 = true) ∧ (∀ s, s < 2 → ∀ i, i < 40 → gh σ s i = true → i < gn σ) ∧ (∀ s, s < 2 → ∀ t, t < 6 → gg σ s t = 40 ∨ (gg σ s t < gn σ ∧ gh σ s (gg σ s t) = true))
def mP (σ : Sg) : Nat → Int32 := fun i => nI (gp σ i)
def mT (σ : Sg) : Nat → Int64 := fun k => gt σ (k / 125) (k % 125)
def mH (σ : Sg) : Nat → Int32 := fun k => x_b (gh σ (k / 40) (k % 40))
def mG (σ : Sg) : Nat → Int32 := fun k => nI (gg σ (k / 6) (k % 6))
def mC (ch : Nat → Bool) : Nat → Int32 := fun i => x_b (ch i)
def mJ (ad : Nat → Nat) : Prop := ∀ i j, i ≤ 6 → j ≤ 6 → ad i = ad j → i = j
theorem mJ.ne {ad : Nat → Nat} (h : mJ ad) (i j : Nat) (hi : i ≤ 6 := by decide) (hj : j ≤ 6 := by decide) (hij : i ≠ j := by decide) : ad i ≠ ad j := fun z => hij (h i j hi hj z)
def mA (ad : Nat → Nat) : Nat → Prop := fun q => ∃ i, i ≤ 6 ∧ q = ad i
/-- the model's world -/
def MO (G : x_G) (ad : Nat → Nat) (σ : Sg) (wk : Nat → Int64) (ch : Nat → Bool) (H : Heap) : Prop := va_at G.1 x_cl (ad 0, .inr (6, [.ref (ad 1), .ref (ad 2), .int (nI (gn σ)), .ref (ad 3), .ref (ad 4), .ref (ad 5), .ref (ad 6), .int (ga σ)])) H ∧ x_ai G (ad 1) 40 (mP σ) H ∧ x_al G (ad 2) 5000 (mT σ) H ∧ x_az G (ad 3) 80 (mH σ) H ∧ x_ai G (ad 4) 12 (mG σ) H ∧ x_al G (ad 5) 125 wk H ∧ x_az G (ad 6) 40 (mC ch) H ∧ mJ ad
theorem e125 (i p : Nat) : (125 : Int32) * nI i + nI p = nI (125 * i + p) := by rw [show (125 : Int32) = nI 125 from rfl, pk_mul, nI_add]
theorem e40 (i p : Nat) : (40 : Int32) * nI i + nI p = nI (40 * i + p) := by rw [show (40 : Int32) = nI 40 from rfl, pk_mul, nI_add]
theorem e6 (i p : Nat) : (6 : Int32) * nI i + nI p = nI (6 * i + p) := by rw [show (6 : Int32) = nI 6 from rfl, pk_mul, nI_add]
theorem mT_at {σ : Sg} {i p : Nat} (hp : p < 125) : mT σ (125 * i + p) = gt σ i p := by
  unfold mT
  rw [show (125 * i + p) / 125 = i by omega, show (125 * i + p) % 125 = p by omega]
theorem mH_at {σ : Sg} {i p : Nat} (hp : p < 40) : mH σ (40 * i + p) = x_b (gh σ i p) := by
  unfold mH
  rw [show (40 * i + p) / 40 = i by omega, show (40 * i + p) % 40 = p by omega]
theorem mG_at {σ : Sg} {i p : Nat} (hp : p < 6) : mG σ (6 * i + p) = nI (gg σ i p) := by
  unfold mG
  rw [show (6 * i + p) / 6 = i by omega, show (6 * i + p) % 6 = p by omega]
/-! ===== the model: small reads ===== -/
def isB (σ : Sg) (x : Int32) : Bool := !decide (x < 0) && !decide (nI (gn σ) ≤ x)
theorem c_MO_is (l : Launch) (G : x_G) (ad : Nat → Nat) (σ : Sg) (wk : Nat → Int64) (ch : Nat → Bool) (x : Int32) : Met l y_MO_is (x_ws y_MO_is b_MO_is 2 (some .boolean)) (x_rm 0 0 0) (x_P G [.ref (ad 0), .int x] (MO G ad σ wk ch)) (k2_QcV (.int (x_b (isB σ x)))) 0 0 (fun _ => False) := by
  refine x_mZ (by decide +kernel) (Nat.le_of_ble_eq_true rfl) (fun p e s m args below meth c F hK hP ls hl Q hret => ?_)
  have hl : lv_has ls 2 [(0, .ref (ad 0)), (1, .int x)] := hl
  obtain ⟨hO, hp, ht, hh, hg, hw, hc, hj⟩ := hP
  refine lv_iload_n F.1 F.2.1 d_MO_is_0 rfl (lv_at hl 1 rfl) ?_
  refine lv_if_lt (tgt := 16) F.1 F.2.1 d_MO_is_1 (by decide) (fun c1 => ?_) (fun c1 => ?_)
  · refine lv_iconst (v := 0) F.1 F.2.1 d_MO_is_16 (by decide) ?_
    exact hret _ _ _ d_MO_is_17 (by simp [isB, x_b, c1])
  · refine lv_iload_n F.1 F.2.1 d_MO_is_4 rfl (lv_at hl 1 rfl) ?_
    refine lv_aload_n F.1 F.2.1 d_MO_is_5 rfl (lv_at hl 0 rfl) ?_
    refine x_get F hK hO rfl i_MO 2 (by decide) k481 rfl rfl d_MO_is_6 ?_
    refine lv_icmp_ge (tgt := 16) F.1 F.2.1 d_MO_is_9 (by decide) (fun c9 => ?_) (fun c9 => ?_)
    · refine lv_iconst (v := 0) F.1 F.2.1 d_MO_is_16 (by decide) ?_
      exact hret _ _ _ d_MO_is_17 (by simp [isB, x_b, c1, c9])
    · refine lv_iconst (v := 1) F.1 F.2.1 d_MO_is_12 (by decide) ?_
      refine lv_goto (tgt := 17) F.1 F.2.1 d_MO_is_13 (by decide) ?_
      exact hret _ _ _ d_MO_is_17 (by simp [isB, x_b, c1, c9])
theorem isB_n {σ : Sg} {i : Nat} (hn : gn σ ≤ 40) (hi : i < gn σ) : isB σ (nI i) = true := by
  unfold isB
  rw [decide_eq_false (nI_pos (by omega)), decide_eq_false (nI_ge hi (by omega))]; rfl
theorem isB_of {σ : Sg} {x : Int32} (hn : gn σ ≤ 40) (h : isB σ x = true) : ∃ i, i < gn σ ∧ x = nI i := by
  unfold isB at h
  simp only [Bool.and_eq_true, Bool.not_eq_true', decide_eq_false_iff_not] at h
  rcases pk_ix x (n := gn σ) (by omega) with q | q | ⟨j, q1, q2⟩
  · exact absurd q h.1
  · exact absurd q h.2
  · exact ⟨j, q1, q2⟩
def hoB (σ : Sg) (s : Nat) (x : Int32) : Bool := isB σ x && gh σ s x.toNatClampNeg
theorem c_MO_holding (l : Launch) (G : x_G) (ad : Nat → Nat) (σ : Sg) (wk : Nat → Int64) (ch : Nat → Bool) (s0 : Nat) (x : Int32) (hs0 : s0 < 2) (hok : gOk σ) : Met l y_MO_holding (x_ws y_MO_holding b_MO_holding 3 (some .boolean)) (x_rm 1 0 0) (x_P G [.ref (ad 0), .int (nI s0), .int x] (MO G ad σ wk ch)) (k2_QcV (.int (x_b (hoB σ s0 x)))) 0 0 (fun _ => False) := by
  refine x_mZ (by decide +kernel) (Nat.le_of_ble_eq_true rfl) (fun p e s m args below meth c F hK hP ls hl Q hret => ?_)
  have hl : lv_has ls 3 [(0, .ref (ad 0)), (1, .int (nI s0)), (2, .int x)] := hl
  obtain ⟨hO, hp, ht, hh, hg, hw, hc, hj⟩ := id hP
  have hn := hok.2.1
  refine lv_aload_n F.1 F.2.1 d_MO_holding_0 rfl (lv_at hl 0 rfl) ?_
  refine lv_iload_n F.1 F.2.1 d_MO_holding_1 rfl (lv_at hl 2 rfl) ?_
  refine x_rd (x_V (n := 1) (As := [.int x]) F (c_MO_is l G ad σ wk ch x) ok_MO_is k512 ⟨Nat.le_of_ble_eq_true rfl, Nat.le_of_ble_eq_true rfl⟩ rfl rfl hK (x_rcv hK hO rfl) (hP) rfl hl.1 rfl (Nat.le_of_ble_eq_true rfl) d_MO_holding_2 ⟨Nat.le_of_ble_eq_true rfl, Nat.le_of_ble_eq_true rfl⟩) ?_
  refine x_beq (tgt := 26) F d_MO_holding_5 (by decide) (fun c5 => ?_) (fun c5 => ?_)
  · refine lv_iconst (v := 0) F.1 F.2.1 d_MO_holding_26 (by decide) ?_
    exact hret _ _ _ d_MO_holding_27 (by unfold hoB; rw [c5]; rfl)
  · obtain ⟨i, hi, rfl⟩ := isB_of hn c5
    have hci : (nI i).toNatClampNeg = i := nI_clamp (by omega)
    refine lv_aload_n F.1 F.2.1 d_MO_holding_8 rfl (lv_at hl 0 rfl) ?_
    refine x_get F hK hO rfl i_MO 3 (by decide) k482 rfl rfl d_MO_holding_9 ?_
    refine lv_bipush (v := 40) F.1 F.2.1 d_MO_holding_12 (by decide) ?_
    refine lv_iload_n F.1 F.2.1 d_MO_holding_14 rfl (lv_at hl 1 rfl) ?_
    refine lv_imul F.1 F.2.1 d_MO_holding_15 ?_
    refine lv_iload_n F.1 F.2.1 d_MO_holding_16 rfl (lv_at hl 2 rfl) ?_
    refine lv_iadd F.1 F.2.1 d_MO_holding_17 ?_
    rw [e40]
    refine x_zaldN F hK hh (by decide) (by omega) d_MO_holding_18 ?_
    rw [mH_at (by omega)]
    refine x_beq (tgt := 26) F d_MO_holding_19 (by decide) (fun c19 => ?_) (fun c19 => ?_)
    · refine lv_iconst (v := 0) F.1 F.2.1 d_MO_holding_26 (by decide) ?_
      exact hret _ _ _ d_MO_holding_27 (by unfold hoB; rw [hci, c19, Bool.and_false]; rfl)
    · refine lv_iconst (v := 1) F.1 F.2.1 d_MO_holding_22 (by decide) ?_
      refine lv_goto (tgt := 27) F.1 F.2.1 d_MO_holding_23 (by decide) ?_
      exact hret _ _ _ d_MO_holding_27 (by unfold hoB; rw [hci, c19, c5]; rfl)
theorem c_MO_workIs (l : Launch) (G : x_G) (ad : Nat → Nat) (σ : Sg) (wk : Nat → Int64) (ch : Nat → Bool) (i : Nat) (hi : i < 40) : Met l y_MO_workIs (x_ws y_MO_workIs b_MO_workIs 3 (some .boolean)) (x_rm 0 0 0) (x_P G [.ref (ad 0), .int (nI i)] (MO G ad σ wk ch)) (k2_QcV (.int (x_b (tEq wk (gt σ i))))) 0 0 (fun _ => False) := by
  refine x_mZ (by decide +kernel) (Nat.le_of_ble_eq_true rfl) (fun p e s m args below meth c F hK hP ls hl Q hret => ?_)
  have hl : lv_has ls 3 [(0, .ref (ad 0)), (1, .int (nI i))] := hl
  obtain ⟨hO, hp, ht, hh, hg, hw, hc, hj⟩ := hP
  have loop : ∀ (n k : Nat), k + n = 125 → (∀ j, j < k → wk j = gt σ i j) → ∀ ls : Array Slot, lv_has ls 3 [(2, .int (nI k)), (0, .ref (ad 0)), (1, .int (nI i))] → W p l e (x_rm 0 0 0) s m args below meth c s.heap [] 0 0 Q (F0 m 2 ls []) := by
    intro n
    induction n with
    | zero =>
      intro k hn hk ls hl
      refine lv_iload_n F.1 F.2.1 d_MO_workIs_2 rfl (lv_at hl 0 rfl) ?_
      refine lv_bipush (v := 125) F.1 F.2.1 d_MO_workIs_3 (by decide) ?_
      refine lv_icmp_ge (tgt := 37) F.1 F.2.1 d_MO_workIs_5 (by decide) (fun _ => ?_) (fun zq => absurd (pN_le (a := 125) (b := k) rfl rfl (by omega) (by omega) (by omega)) zq)
      refine lv_iconst (v := 1) F.1 F.2.1 d_MO_workIs_37 (by decide) ?_
      exact hret _ _ _ d_MO_workIs_38 (by rw [tEq_iff.mpr (fun j h => hk j (by omega))]; rfl)
    | succ n ih =>
      intro k hn hk ls hl
      refine lv_iload_n F.1 F.2.1 d_MO_workIs_2 rfl (lv_at hl 0 rfl) ?_
      refine lv_bipush (v := 125) F.1 F.2.1 d_MO_workIs_3 (by decide) ?_
      refine lv_icmp_ge (tgt := 37) F.1 F.2.1 d_MO_workIs_5 (by decide) (fun zq => absurd zq (pN_nle (a := 125) (b := k) rfl rfl (by omega) (by omega) (by omega))) (fun _ => ?_)
      refine lv_aload_n F.1 F.2.1 d_MO_workIs_8 rfl (lv_at hl 1 rfl) ?_
      refine x_get F hK hO rfl i_MO 5 (by decide) k484 rfl rfl d_MO_workIs_9 ?_
      refine lv_iload_n F.1 F.2.1 d_MO_workIs_12 rfl (lv_at hl 0 rfl) ?_
      refine x_laldN F hK hw (by decide) (by omega) d_MO_workIs_13 ?_
      refine lv_aload_n F.1 F.2.1 d_MO_workIs_14 rfl (lv_at hl 1 rfl) ?_
      refine x_get F hK hO rfl i_MO 1 (by decide) k480 rfl rfl d_MO_workIs_15 ?_
      refine lv_bipush (v := 125) F.1 F.2.1 d_MO_workIs_18 (by decide) ?_
      refine lv_iload_n F.1 F.2.1 d_MO_workIs_20 rfl (lv_at hl 2 rfl) ?_
      refine lv_imul F.1 F.2.1 d_MO_workIs_21 ?_
      refine lv_iload_n F.1 F.2.1 d_MO_workIs_22 rfl (lv_at hl 0 rfl) ?_
      refine lv_iadd F.1 F.2.1 d_MO_workIs_23 ?_
      rw [e125]
      refine x_laldN F hK ht (by decide) (by omega) d_MO_workIs_24 ?_
      rw [mT_at (by omega)]
      refine x_leq (tgt := 31) F d_MO_workIs_25 d_MO_workIs_26 (by decide) (fun c25 => ?_) (fun c25 => ?_)
      · refine lv_iinc (v := (nI (k + 1))) (lv' := [(2, .int (nI (k + 1))), (0, .ref (ad 0)), (1, .int (nI i))]) F.1 F.2.1 d_MO_workIs_31 hl (k := 0) rfl (nI_1 k) (by decide) rfl (fun ls hl => ?_)
        refine lv_goto (tgt := 2) F.1 F.2.1 d_MO_workIs_34 (by decide) ?_
        exact ih (k + 1) (by omega) (fun j h => by rcases Nat.lt_succ_iff_lt_or_eq.mp h with h | rfl; exact hk j h; exact c25) ls hl
      · refine lv_iconst (v := 0) F.1 F.2.1 d_MO_workIs_29 (by decide) ?_
        exact hret _ _ _ d_MO_workIs_30 (by rw [tEq_f (by omega) c25]; rfl)
  refine lv_iconst (v := 0) F.1 F.2.1 d_MO_workIs_0 (by decide) ?_
  refine lv_istore_n (lv' := [(2, .int 0), (0, .ref (ad 0)), (1, .int (nI i))]) F.1 F.2.1 d_MO_workIs_1 rfl hl (by decide) rfl (fun ls hl => ?_)
  exact loop 125 0 rfl (fun j h => absurd h (Nat.not_lt_zero j)) ls hl
/-! the chain of an image: itself and those above it but 0, the lowest first -/
def cL (par : Nat → Nat) : Nat → Nat → List Nat
  | 0, _ => []
  | k + 1, i => if i = 0 then [] else cL par k (par i) ++ [i]
def cn (par : Nat → Nat) (i : Nat) : List Nat := cL par i i
theorem cL_fuel {par : Nat → Nat} (h : ∀ i, 0 < i → par i < i) : ∀ n i, i ≤ n → ∀ k, i ≤ k → cL par k i = cL par i i := by
  intro n
  induction n with
  | zero =>
    intro i hi k hk
    obtain rfl : i = 0 := by omega
    cases k <;> rfl
  | succ n ih =>
    intro i hi k hk
    cases i with
    | zero => cases k <;> rfl
    | succ i =>
      cases k with
      | zero => omega
      | succ k =>
        show (if i + 1 = 0 then [] else cL par k (par (i + 1)) ++ [i + 1]) = (if i + 1 = 0 then [] else cL par i (par (i + 1)) ++ [i + 1])
        have h1 := h (i + 1) (by omega)
        rw [if_neg (by omega), if_neg (by omega), ih (par (i + 1)) (by omega) k (by omega), ih (par (i + 1)) (by omega) i (by omega)]
theorem cn_0 (par : Nat → Nat) : cn par 0 = [] := rfl
theorem cn_s {par : Nat → Nat} (h : ∀ i, 0 < i → par i < i) {i : Nat} (hi : 0 < i) : cn par i = cn par (par i) ++ [i] := by
  cases i with
  | zero => omega
  | succ i =>
    show (if i + 1 = 0 then [] else cL par i (par (i + 1)) ++ [i + 1]) = _
    have h1 := h (i + 1) hi
    rw [if_neg (by omega), cL_fuel h _ _ (Nat.le_refl _) i (by omega)]
    rfl
theorem cn_len {par : Nat → Nat} (h : ∀ i, 0 < i → par i < i) : ∀ n i, i ≤ n → (cn par i).length ≤ i := by
  intro n
  induction n with
  | zero => intro i hi; rw [show i = 0 by omega]; exact Nat.le_refl _
  | succ n ih =>
    intro i hi
    rcases Nat.eq_zero_or_pos i with rfl | q
    · exact Nat.le_refl _
    · rw [cn_s h q, List.length_append]
      have := ih (par i) (by have := h i q; omega)
      have := h i q
      simp
      omega
theorem cn_mem {par : Nat → Nat} (h : ∀ i, 0 < i → par i < i) : ∀ n i, i ≤ n → ∀ j, j ∈ cn par i → 0 < j ∧ j ≤ i := by
  intro n
  induction n with
  | zero => intro i hi j hj; rw [show i = 0 by omega] at hj; cases hj
  | succ n ih =>
    intro i hi j hj
    rcases Nat.eq_zero_or_pos i with rfl | q
    · cases hj
    · rw [cn_s h q] at hj
      rcases List.mem_append.mp hj with hj | hj
      · have h1 := ih (par i) (by have := h i q; omega) j hj
        have h2 := h i q
        omega
      · rw [List.mem_singleton.mp hj]; omega
theorem c_MO_layerCount (l : Launch) (G : x_G) (ad : Nat → Nat) (σ : Sg) (wk : Nat → Int64) (ch : Nat → Bool) (i : Nat) (hi : i < 40) (hpr : ∀ i, 0 < i → gp σ i < i) : Met l y_MO_layerCount (x_ws y_MO_layerCount b_MO_layerCount 4 (some .int)) (x_rm 0 0 0) (x_P G [.ref (ad 0), .int (nI i)] (MO G ad σ wk ch)) (k2_QcV (.int (nI (cn (gp σ) i).length))) 0 0 (fun _ => False) := by
  refine x_mI (by decide +kernel) (Nat.le_of_ble_eq_true rfl) (fun p e s m args below meth c F hK hP ls hl Q hret => ?_)
  have hl : lv_has ls 4 [(0, .ref (ad 0)), (1, .int (nI i))] := hl
  obtain ⟨hO, hp, ht, hh, hg, hw, hc, hj⟩ := hP
  have loop : ∀ (n j k : Nat), j ≤ n → j < 40 → k ≤ 40 → k + (cn (gp σ) j).length = (cn (gp σ) i).length → ∀ ls : Array Slot, lv_has ls 4 [(3, .int (nI j)), (2, .int (nI k)), (0, .ref (ad 0)), (1, .int (nI i))] → W p l e (x_rm 0 0 0) s m args below meth c s.heap [] 0 0 Q (F0 m 4 ls []) := by
    intro n
    induction n with
    | zero =>
      intro j k hjn hj40 hk hlen ls hl
      obtain rfl : j = 0 := by omega
      refine lv_iload_n F.1 F.2.1 d_MO_layerCount_4 rfl (lv_at hl 0 rfl) ?_
      refine lv_if_eq (tgt := 21) F.1 F.2.1 d_MO_layerCount_5 (by decide) (fun _ => ?_) (fun zq => absurd (pN_eq (a := 0) (b := 0) rfl rfl (by omega) (by omega) (by omega)) zq)
      refine lv_iload_n F.1 F.2.1 d_MO_layerCount_21 rfl (lv_at hl 1 rfl) ?_
      exact hret _ _ _ d_MO_layerCount_22 (by rw [← hlen]; rfl)
    | succ n ih =>
      intro j k hjn hj40 hk hlen ls hl
      have hli := cn_len hpr _ i (Nat.le_refl _)
      refine lv_iload_n F.1 F.2.1 d_MO_layerCount_4 rfl (lv_at hl 0 rfl) ?_
      refine lv_if_eq (tgt := 21) F.1 F.2.1 d_MO_layerCount_5 (by decide) (fun c5 => ?_) (fun c5 => ?_)
      · have c5 := (pN_eqI (a := j) (b := 0) rfl rfl (by omega) (by omega)).mp c5
        subst c5
        refine lv_iload_n F.1 F.2.1 d_MO_layerCount_21 rfl (lv_at hl 1 rfl) ?_
        exact hret _ _ _ d_MO_layerCount_22 (by rw [← hlen]; rfl)
      · have c5 := mt (pN_eqI (a := j) (b := 0) rfl rfl (by omega) (by omega)).mpr c5
        have h1 := hpr j (by omega)
        rw [cn_s hpr (show 0 < j by omega), List.length_append, List.length_singleton] at hlen
        refine lv_iinc (v := (nI (k + 1))) (lv' := [(2, .int (nI (k + 1))), (3, .int (nI j)), (0, .ref (ad 0)), (1, .int (nI i))]) F.1 F.2.1 d_MO_layerCount_8 hl (k := 1) rfl (nI_1 k) (by decide) rfl (fun ls hl => ?_)
        refine lv_aload_n F.1 F.2.1 d_MO_layerCount_11 rfl (lv_at hl 2 rfl) ?_
        refine x_get F hK hO rfl i_MO 0 (by decide) k479 rfl rfl d_MO_layerCount_12 ?_
        refine lv_iload_n F.1 F.2.1 d_MO_layerCount_15 rfl (lv_at hl 1 rfl) ?_
        refine x_ialdN F hK hp (by decide) (by omega) d_MO_layerCount_16 ?_
        refine lv_istore_n (lv' := [(3, .int (nI (gp σ j))), (2, .int (nI (k + 1))), (0, .ref (ad 0)), (1, .int (nI i))]) F.1 F.2.1 d_MO_layerCount_17 rfl hl (by decide) rfl (fun ls hl => ?_)
        refine lv_goto (tgt := 4) F.1 F.2.1 d_MO_layerCount_18 (by decide) ?_
        exact ih (gp σ j) (k + 1) (by omega) (by omega) (by omega) (by omega) ls hl
  refine lv_iconst (v := 0) F.1 F.2.1 d_MO_layerCount_0 (by decide) ?_
  refine lv_istore_n (lv' := [(2, .int 0), (0, .ref (ad 0)), (1, .int (nI i))]) F.1 F.2.1 d_MO_layerCount_1 rfl hl (by decide) rfl (fun ls hl => ?_)
  refine lv_iload_n F.1 F.2.1 d_MO_layerCount_2 rfl (lv_at hl 2 rfl) ?_
  refine lv_istore_n (lv' := [(3, .int (nI i)), (2, .int 0), (0, .ref (ad 0)), (1, .int (nI i))]) F.1 F.2.1 d_MO_layerCount_3 rfl hl (by decide) rfl (fun ls hl => ?_)
  exact loop i i 0 (Nat.le_refl _) hi (by omega) (by omega) ls hl
end
section
/-! ===== the model: owner, marks, sizes ===== -/
def owB (par : Nat → Nat) (i : Nat) (x : Int32) : Nat := if x < 0 ∨ ¬ x < nI (cn par i).length then 0 else (cn par i).getD x.toNatClampNeg 0
theorem getD_app_l {L M : List Nat} {k : Nat} (h : k < L.length) : (L ++ M).getD k 0 = L.getD k 0 := by
  rw [List.getD_eq_getElem?_getD, List.getD_eq_getElem?_getD, List.getElem?_append_left h]
theorem getD_app_r {L : List Nat} {x : Nat} : (L ++ [x]).getD L.length 0 = x := by
  rw [List.getD_eq_getElem?_getD, List.getElem?_append_right (Nat.le_refl _), Nat.sub_self]; rfl
theorem c_MO_owner (l : Launch) (G : x_G) (ad : Nat → Nat) (σ : Sg) (wk : Nat → Int64) (ch : Nat → Bool) (i : Nat) (x : Int32) (hi : i < 40) (hpr : ∀ i, 0 < i → gp σ i < i) : Met l y_MO_owner (x_ws y_MO_owner b_MO_owner 6 (some .int)) (x_rm 1 0 0) (x_P G [.ref (ad 0), .int (nI i), .int x] (MO G ad σ wk ch)) (k2_QcV (.int (nI (owB (gp σ) i x)))) 0 0 (fun _ => False) := by
  refine x_mI (by decide +kernel) (Nat.le_of_ble_eq_true rfl) (fun p e s m args below meth c F hK hP ls hl Q hret => ?_)
  have hl : lv_has ls 6 [(0, .ref (ad 0)), (1, .int (nI i)), (2, .int x)] := hl
  obtain ⟨hO, hp, ht, hh, hg, hw, hc, hj⟩ := id hP
  have hli := cn_len hpr _ i (Nat.le_refl _)
  refine lv_aload_n F.1 F.2.1 d_MO_owner_0 rfl (lv_at hl 0 rfl) ?_
  refine lv_iload_n F.1 F.2.1 d_MO_owner_1 rfl (lv_at hl 1 rfl) ?_
  refine x_rd (x_V (n := 1) (As := [.int (nI i)]) F (c_MO_layerCount l G ad σ wk ch i hi hpr) ok_MO_layerCount k653 ⟨Nat.le_of_ble_eq_true rfl, Nat.le_of_ble_eq_true rfl⟩ rfl rfl hK (x_rcv hK hO rfl) (hP) rfl hl.1 rfl (Nat.le_of_ble_eq_true rfl) d_MO_owner_2 ⟨Nat.le_of_ble_eq_true rfl, Nat.le_of_ble_eq_true rfl⟩) ?_
  refine lv_istore_n (lv' := [(3, .int (nI (cn (gp σ) i).length)), (0, .ref (ad 0)), (1, .int (nI i)), (2, .int x)]) F.1 F.2.1 d_MO_owner_5 rfl hl (by decide) rfl (fun ls hl => ?_)
  refine lv_iload_n F.1 F.2.1 d_MO_owner_6 rfl (lv_at hl 3 rfl) ?_
  refine lv_if_lt (tgt := 15) F.1 F.2.1 d_MO_owner_7 (by decide) (fun c7 => ?_) (fun c7 => ?_)
  · refine lv_iconst (v := 0) F.1 F.2.1 d_MO_owner_15 (by decide) ?_
    exact hret _ _ _ d_MO_owner_16 (by unfold owB; rw [if_pos (Or.inl c7)]; rfl)
  · refine lv_iload_n F.1 F.2.1 d_MO_owner_10 rfl (lv_at hl 3 rfl) ?_
    refine lv_iload_n F.1 F.2.1 d_MO_owner_11 rfl (lv_at hl 0 rfl) ?_
    refine lv_icmp_lt (tgt := 17) F.1 F.2.1 d_MO_owner_12 (by decide) (fun c12 => ?_) (fun c12 => ?_)
    · have hlt := c12
      obtain ⟨y, hy1, rfl⟩ : ∃ y : Nat, y < (cn (gp σ) i).length ∧ x = nI y := by
        rcases pk_ix x (n := (cn (gp σ) i).length) (by omega) with q | q | q
        · exact absurd q c7
        · exact absurd hlt (Int32.not_lt.mpr q)
        · exact q
      have hcy : (nI y).toNatClampNeg = y := nI_clamp (by omega)
      have hov : owB (gp σ) i (nI y) = (cn (gp σ) i).getD y 0 := by
        unfold owB
        rw [if_neg (by rintro (h | h); exact c7 h; exact h c12), hcy]
      have loop : ∀ (d k j : Nat), k = y + d → j < 40 → (cn (gp σ) j).length = k + 1 → (∀ q, q ≤ k → (cn (gp σ) j).getD q 0 = (cn (gp σ) i).getD q 0) → ∀ ls : Array Slot, lv_has ls 6 [(5, .int (nI k)), (4, .int (nI j)), (3, .int (nI (cn (gp σ) i).length)), (0, .ref (ad 0)), (1, .int (nI i)), (2, .int (nI y))] → W p l e (x_rm 1 0 0) s m args below meth c s.heap [] 0 0 Q (F0 m 25 ls []) := by
        intro d
        induction d with
        | zero =>
          intro k j hk hj40 hlen hq ls hl
          have hl1 := cn_len hpr _ j (Nat.le_refl _)
          refine lv_iload F.1 F.2.1 d_MO_owner_25 (lv_at hl 0 rfl) ?_
          refine lv_iload_n F.1 F.2.1 d_MO_owner_27 rfl (lv_at hl 5 rfl) ?_
          refine lv_icmp_le (tgt := 46) F.1 F.2.1 d_MO_owner_28 (by decide) (fun _ => ?_) (fun zq => absurd (pN_le (a := k) (b := y) rfl rfl (by omega) (by omega) (by omega)) zq)
          refine lv_iload F.1 F.2.1 d_MO_owner_46 (lv_at hl 1 rfl) ?_
          have h0 : 0 < j := by omega
          have hlen2 := hlen
          rw [cn_s hpr h0, List.length_append, List.length_singleton] at hlen2
          have hfin : (cn (gp σ) j).getD y 0 = j := by rw [cn_s hpr h0, show y = (cn (gp σ) (gp σ j)).length by omega, getD_app_r]
          exact hret _ _ _ d_MO_owner_48 (by rw [hov, ← hq y (by omega), hfin])
        | succ d ih =>
          intro k j hk hj40 hlen hq ls hl
          have hl1 := cn_len hpr _ j (Nat.le_refl _)
          have h0 : 0 < j := by omega
          have h1 := hpr j h0
          refine lv_iload F.1 F.2.1 d_MO_owner_25 (lv_at hl 0 rfl) ?_
          refine lv_iload_n F.1 F.2.1 d_MO_owner_27 rfl (lv_at hl 5 rfl) ?_
          refine lv_icmp_le (tgt := 46) F.1 F.2.1 d_MO_owner_28 (by decide) (fun zq => absurd zq (pN_nle (a := k) (b := y) rfl rfl (by omega) (by omega) (by omega))) (fun _ => ?_)
          refine lv_aload_n F.1 F.2.1 d_MO_owner_31 rfl (lv_at hl 3 rfl) ?_
          refine x_get F hK hO rfl i_MO 0 (by decide) k479 rfl rfl d_MO_owner_32 ?_
          refine lv_iload F.1 F.2.1 d_MO_owner_35 (lv_at hl 1 rfl) ?_
          refine x_ialdN F hK hp (by decide) (by omega) d_MO_owner_37 ?_
          refine lv_istore (lv' := [(4, .int (nI (gp σ j))), (5, .int (nI k)), (3, .int (nI (cn (gp σ) i).length)), (0, .ref (ad 0)), (1, .int (nI i)), (2, .int (nI y))]) F.1 F.2.1 d_MO_owner_38 hl (by decide) rfl (fun ls hl => ?_)
          obtain ⟨k', rfl⟩ : ∃ k', k = k' + 1 := ⟨k - 1, by omega⟩
          refine lv_iinc (v := nI k') (lv' := [(5, .int (nI k')), (4, .int (nI (gp σ j))), (3, .int (nI (cn (gp σ) i).length)), (0, .ref (ad 0)), (1, .int (nI i)), (2, .int (nI y))]) F.1 F.2.1 d_MO_owner_40 hl (k := 1) rfl (pk_m1 k') (by decide) rfl (fun ls hl => ?_)
          refine lv_goto (tgt := 25) F.1 F.2.1 d_MO_owner_43 (by decide) ?_
          rw [cn_s hpr h0, List.length_append, List.length_singleton] at hlen
          refine ih k' (gp σ j) (by omega) (by omega) (by omega) (fun q hq1 => ?_) ls hl
          rw [← hq q (by omega), cn_s hpr h0, getD_app_l (by omega)]
      refine lv_iload_n F.1 F.2.1 d_MO_owner_17 rfl (lv_at hl 2 rfl) ?_
      refine lv_istore (lv' := [(4, .int (nI i)), (3, .int (nI (cn (gp σ) i).length)), (0, .ref (ad 0)), (1, .int (nI i)), (2, .int (nI y))]) F.1 F.2.1 d_MO_owner_18 hl (by decide) rfl (fun ls hl => ?_)
      refine lv_iload_n F.1 F.2.1 d_MO_owner_20 rfl (lv_at hl 1 rfl) ?_
      refine lv_iconst (v := 1) F.1 F.2.1 d_MO_owner_21 (by decide) ?_
      refine lv_isub F.1 F.2.1 d_MO_owner_22 ?_
      rw [show nI (cn (gp σ) i).length - 1 = nI ((cn (gp σ) i).length - 1) from (by rw [show (1 : Int32) = nI 1 from rfl]; exact pk_sub (by omega))]
      refine lv_istore (lv' := [(5, .int (nI ((cn (gp σ) i).length - 1))), (4, .int (nI i)), (3, .int (nI (cn (gp σ) i).length)), (0, .ref (ad 0)), (1, .int (nI i)), (2, .int (nI y))]) F.1 F.2.1 d_MO_owner_23 hl (by decide) rfl (fun ls hl => ?_)
      exact loop ((cn (gp σ) i).length - 1 - y) ((cn (gp σ) i).length - 1) i (by omega) hi (by omega) (fun _ _ => rfl) ls hl
    · refine lv_iconst (v := 0) F.1 F.2.1 d_MO_owner_15 (by decide) ?_
      exact hret _ _ _ d_MO_owner_16 (by unfold owB; rw [if_pos (Or.inr c12)]; rfl)
/-- what the layer of image i says of p -/
def mkI (σ : Sg) (i p : Nat) : Int64 := mk (gt σ (gp σ i)) (gt σ i) p
theorem c_MO_mark (l : Launch) (G : x_G) (ad : Nat → Nat) (σ : Sg) (wk : Nat → Int64) (ch : Nat → Bool) (i x : Nat) (hi : i < 40) (hx : x < 125) (hpi : gp σ i < 40) : Met l y_MO_mark (x_ws y_MO_mark b_MO_mark 7 (some .long)) (x_rm 2 0 0) (x_P G [.ref (ad 0), .int (nI i), .int (nI x)] (MO G ad σ wk ch)) (k2_QcV (.long (mkI σ i x))) 0 0 (fun _ => False) := by
  refine x_mL (by decide +kernel) (Nat.le_of_ble_eq_true rfl) (fun p e s m args below meth c F hK hP ls hl Q hret => ?_)
  have hl : lv_has ls 7 [(0, .ref (ad 0)), (1, .int (nI i)), (2, .int (nI x))] := hl
  obtain ⟨hO, hp, ht, hh, hg, hw, hc, hj⟩ := hP
  have hpx := pa_lt x hx
  refine lv_aload_n F.1 F.2.1 d_MO_mark_0 rfl (lv_at hl 0 rfl) ?_
  refine x_get F hK hO rfl i_MO 1 (by decide) k480 rfl rfl d_MO_mark_1 ?_
  refine lv_bipush (v := 125) F.1 F.2.1 d_MO_mark_4 (by decide) ?_
  refine lv_aload_n F.1 F.2.1 d_MO_mark_6 rfl (lv_at hl 0 rfl) ?_
  refine x_get F hK hO rfl i_MO 0 (by decide) k479 rfl rfl d_MO_mark_7 ?_
  refine lv_iload_n F.1 F.2.1 d_MO_mark_10 rfl (lv_at hl 1 rfl) ?_
  refine x_ialdN F hK hp (by decide) (by omega) d_MO_mark_11 ?_
  refine lv_imul F.1 F.2.1 d_MO_mark_12 ?_
  refine lv_iload_n F.1 F.2.1 d_MO_mark_13 rfl (lv_at hl 2 rfl) ?_
  refine lv_iadd F.1 F.2.1 d_MO_mark_14 ?_
  rw [show mP σ i = nI (gp σ i) from rfl, e125]
  refine x_laldN F hK ht (by decide) (by omega) d_MO_mark_15 ?_
  rw [mT_at hx]
  refine lv_lstore_n (lv' := [(3, .long (gt σ (gp σ i) x)), (0, .ref (ad 0)), (1, .int (nI i)), (2, .int (nI x))]) F.1 F.2.1 d_MO_mark_16 rfl hl (by decide) rfl (fun ls hl => ?_)
  refine lv_aload_n F.1 F.2.1 d_MO_mark_17 rfl (lv_at hl 1 rfl) ?_
  refine x_get F hK hO rfl i_MO 1 (by decide) k480 rfl rfl d_MO_mark_18 ?_
  refine lv_bipush (v := 125) F.1 F.2.1 d_MO_mark_21 (by decide) ?_
  refine lv_iload_n F.1 F.2.1 d_MO_mark_23 rfl (lv_at hl 2 rfl) ?_
  refine lv_imul F.1 F.2.1 d_MO_mark_24 ?_
  refine lv_iload_n F.1 F.2.1 d_MO_mark_25 rfl (lv_at hl 3 rfl) ?_
  refine lv_iadd F.1 F.2.1 d_MO_mark_26 ?_
  rw [e125]
  refine x_laldN F hK ht (by decide) (by omega) d_MO_mark_27 ?_
  rw [mT_at hx]
  refine lv_lstore (lv' := [(5, .long (gt σ i x)), (3, .long (gt σ (gp σ i) x)), (0, .ref (ad 0)), (1, .int (nI i)), (2, .int (nI x))]) F.1 F.2.1 d_MO_mark_28 hl (by decide) rfl (fun ls hl => ?_)
  refine lv_lload F.1 F.2.1 d_MO_mark_30 (lv_at hl 0 rfl) ?_
  refine x_cst F k478 d_MO_mark_32 ?_
  refine x_leq (tgt := 55) F d_MO_mark_35 d_MO_mark_36 (by decide) (fun c35 => ?_) (fun c35 => ?_)
  · refine lv_lload_n F.1 F.2.1 d_MO_mark_55 rfl (lv_at hl 1 rfl) ?_
    refine x_cst F k478 d_MO_mark_56 ?_
    refine x_leq (tgt := 90) F d_MO_mark_59 d_MO_mark_60 (by decide) (fun c59 => ?_) (fun c59 => ?_)
    · refine x_cst F k623 d_MO_mark_90 ?_
      exact hret _ _ _ d_MO_mark_93 (by unfold mkI mk; rw [if_pos (c35.trans c59.symm)])
    · refine lv_aload_n F.1 F.2.1 d_MO_mark_63 rfl (lv_at hl 2 rfl) ?_
      refine x_get F hK hO rfl i_MO 1 (by decide) k480 rfl rfl d_MO_mark_64 ?_
      refine lv_bipush (v := 125) F.1 F.2.1 d_MO_mark_67 (by decide) ?_
      refine lv_iload_n F.1 F.2.1 d_MO_mark_69 rfl (lv_at hl 3 rfl) ?_
      refine lv_imul F.1 F.2.1 d_MO_mark_70 ?_
      refine lv_iload_n F.1 F.2.1 d_MO_mark_71 rfl (lv_at hl 4 rfl) ?_
      refine x_rd (x_S (n := 1) (As := [.int (nI x)]) F (c_MO_above l G (nI x)) ok_MO_above k555 ⟨Nat.le_of_ble_eq_true rfl, Nat.le_of_ble_eq_true rfl⟩ rfl rfl hK (trivial) rfl hl.1 rfl (Nat.le_of_ble_eq_true rfl) d_MO_mark_72 ⟨Nat.le_of_ble_eq_true rfl, Nat.le_of_ble_eq_true rfl⟩) ?_
      rw [mo_above_n x hx]
      refine lv_iadd F.1 F.2.1 d_MO_mark_75 ?_
      rw [e125]
      refine x_laldN F hK ht (by decide) (by omega) d_MO_mark_76 ?_
      rw [mT_at hpx]
      refine x_cst F k477 d_MO_mark_77 ?_
      refine x_lne (tgt := 90) F d_MO_mark_80 d_MO_mark_81 (by decide) (fun c80 => ?_) (fun c80 => ?_)
      · refine x_cst F k623 d_MO_mark_90 ?_
        exact hret _ _ _ d_MO_mark_93 (by unfold mkI mk; rw [if_neg (fun h => c59 (h.symm.trans c35)), if_pos c35, if_neg c80])
      · refine x_cst F k624 d_MO_mark_84 ?_
        refine lv_goto (tgt := 93) F.1 F.2.1 d_MO_mark_87 (by decide) ?_
        exact hret _ _ _ d_MO_mark_93 (by unfold mkI mk; rw [if_neg (fun h => c59 (h.symm.trans c35)), if_pos c35, if_pos c80])
  · refine lv_lload_n F.1 F.2.1 d_MO_mark_39 rfl (lv_at hl 1 rfl) ?_
    refine lv_lload F.1 F.2.1 d_MO_mark_40 (lv_at hl 0 rfl) ?_
    refine x_lne (tgt := 52) F d_MO_mark_42 d_MO_mark_43 (by decide) (fun c42 => ?_) (fun c42 => ?_)
    · refine lv_lload F.1 F.2.1 d_MO_mark_52 (lv_at hl 0 rfl) ?_
      exact hret _ _ _ d_MO_mark_54 (by unfold mkI mk; rw [if_neg (fun h => c42 h.symm), if_neg c35])
    · refine x_cst F k623 d_MO_mark_46 ?_
      refine lv_goto (tgt := 54) F.1 F.2.1 d_MO_mark_49 (by decide) ?_
      exact hret _ _ _ d_MO_mark_54 (by unfold mkI mk; rw [if_pos c42.symm])
/-- the layers of a and b say the same -/
def smB (σ : Sg) (a b : Nat) : Bool := (List.range 125).all fun p => !lg p || decide (mkI σ a p = mkI σ b p)
theorem smB_iff {σ : Sg} {a b : Nat} : smB σ a b = true ↔ ∀ p, p < 125 → lg p = true → mkI σ a p = mkI σ b p := by
  unfold smB
  rw [List.all_eq_true]
  constructor
  · intro h p hp hg
    have := h p (List.mem_range.mpr hp)
    rw [hg] at this
    exact of_decide_eq_true (by simpa using this)
  · intro h p hp
    cases hg : lg p with
    | false => rfl
    | true => rw [decide_eq_true (h p (List.mem_range.mp hp) hg)]; rfl
theorem smB_f {σ : Sg} {a b p : Nat} (hp : p < 125) (hg : lg p = true) (h : ¬ mkI σ a p = mkI σ b p) : smB σ a b = false := by
  cases hh : smB σ a b with
  | false => rfl
  | true => exact absurd (smB_iff.mp hh p hp hg) h
theorem c_MO_same (l : Launch) (G : x_G) (ad : Nat → Nat) (σ : Sg) (wk : Nat → Int64) (ch : Nat → Bool) (a b : Nat) (ha : a < 40) (hb : b < 40) (hpa : gp σ a < 40) (hpb : gp σ b < 40) : Met l y_MO_same (x_ws y_MO_same b_MO_same 4 (some .boolean)) (x_rm 3 0 0) (x_P G [.ref (ad 0), .int (nI a), .int (nI b)] (MO G ad σ wk ch)) (k2_QcV (.int (x_b (smB σ a b)))) 0 0 (fun _ => False) := by
  refine x_mZ (by decide +kernel) (Nat.le_of_ble_eq_true rfl) (fun p e s m args below meth c F hK hP ls hl Q hret => ?_)
  have hl : lv_has ls 4 [(0, .ref (ad 0)), (1, .int (nI a)), (2, .int (nI b))] := hl
  obtain ⟨hO, -⟩ := id hP
  have loop : ∀ (n k : Nat), k + n = 125 → (∀ j, j < k → lg j = true → mkI σ a j = mkI σ b j) → ∀ ls : Array Slot, lv_has ls 4 [(3, .int (nI k)), (0, .ref (ad 0)), (1, .int (nI a)), (2, .int (nI b))] → W p l e (x_rm 3 0 0) s m args below meth c s.heap [] 0 0 Q (F0 m 2 ls []) := by
    intro n
    induction n with
    | zero =>
      intro k hn hk ls hl
      refine lv_iload_n F.1 F.2.1 d_MO_same_2 rfl (lv_at hl 0 rfl) ?_
      refine lv_bipush (v := 125) F.1 F.2.1 d_MO_same_3 (by decide) ?_
      refine lv_icmp_ge (tgt := 39) F.1 F.2.1 d_MO_same_5 (by decide) (fun _ => ?_) (fun zq => absurd (pN_le (a := 125) (b := k) rfl rfl (by omega) (by omega) (by omega)) zq)
      refine lv_iconst (v := 1) F.1 F.2.1 d_MO_same_39 (by decide) ?_
      exact hret _ _ _ d_MO_same_40 (by rw [smB_iff.mpr (fun j h => hk j (by omega))]; rfl)
    | succ n ih =>
      intro k hn hk ls hl
      refine lv_iload_n F.1 F.2.1 d_MO_same_2 rfl (lv_at hl 0 rfl) ?_
      refine lv_bipush (v := 125) F.1 F.2.1 d_MO_same_3 (by decide) ?_
      refine lv_icmp_ge (tgt := 39) F.1 F.2.1 d_MO_same_5 (by decide) (fun zq => absurd zq (pN_nle (a := 125) (b := k) rfl rfl (by omega) (by omega) (by omega))) (fun _ => ?_)
      refine lv_iload_n F.1 F.2.1 d_MO_same_8 rfl (lv_at hl 0 rfl) ?_
      refine x_rd (x_S (n := 1) (As := [.int (nI k)]) F (c_MO_legal l G (nI k)) ok_MO_legal k516 ⟨Nat.le_of_ble_eq_true rfl, Nat.le_of_ble_eq_true rfl⟩ rfl rfl hK (trivial) rfl hl.1 rfl (Nat.le_of_ble_eq_true rfl) d_MO_same_9 ⟨Nat.le_of_ble_eq_true rfl, Nat.le_of_ble_eq_true rfl⟩) ?_
      rw [mo_legal_n k (by omega)]
      refine x_beq (tgt := 33) F d_MO_same_12 (by decide) (fun c12 => ?_) (fun c12 => ?_)
      · refine lv_iinc (v := (nI (k + 1))) (lv' := [(3, .int (nI (k + 1))), (0, .ref (ad 0)), (1, .int (nI a)), (2, .int (nI b))]) F.1 F.2.1 d_MO_same_33 hl (k := 0) rfl (nI_1 k) (by decide) rfl (fun ls hl => ?_)
        refine lv_goto (tgt := 2) F.1 F.2.1 d_MO_same_36 (by decide) ?_
        exact ih (k + 1) (by omega) (fun j h hg => by rcases Nat.lt_succ_iff_lt_or_eq.mp h with h | rfl; exact hk j h hg; rw [c12] at hg; cases hg) ls hl
      · refine lv_aload_n F.1 F.2.1 d_MO_same_15 rfl (lv_at hl 1 rfl) ?_
        refine lv_iload_n F.1 F.2.1 d_MO_same_16 rfl (lv_at hl 2 rfl) ?_
        refine lv_iload_n F.1 F.2.1 d_MO_same_17 rfl (lv_at hl 0 rfl) ?_
        refine x_rd (x_V (n := 2) (As := [.int (nI a), .int (nI k)]) F (c_MO_mark l G ad σ wk ch a k ha (by omega) hpa) ok_MO_mark k619 ⟨Nat.le_of_ble_eq_true rfl, Nat.le_of_ble_eq_true rfl⟩ rfl rfl hK (x_rcv hK hO rfl) (hP) rfl hl.1 rfl (Nat.le_of_ble_eq_true rfl) d_MO_same_18 ⟨Nat.le_of_ble_eq_true rfl, Nat.le_of_ble_eq_true rfl⟩) ?_
        refine lv_aload_n F.1 F.2.1 d_MO_same_21 rfl (lv_at hl 1 rfl) ?_
        refine lv_iload_n F.1 F.2.1 d_MO_same_22 rfl (lv_at hl 3 rfl) ?_
        refine lv_iload_n F.1 F.2.1 d_MO_same_23 rfl (lv_at hl 0 rfl) ?_
        refine x_rd (x_V (n := 2) (As := [.int (nI b), .int (nI k)]) F (c_MO_mark l G ad σ wk ch b k hb (by omega) hpb) ok_MO_mark k619 ⟨Nat.le_of_ble_eq_true rfl, Nat.le_of_ble_eq_true rfl⟩ rfl rfl hK (x_rcv hK hO rfl) (hP) rfl hl.1 rfl (Nat.le_of_ble_eq_true rfl) d_MO_same_24 ⟨Nat.le_of_ble_eq_true rfl, Nat.le_of_ble_eq_true rfl⟩) ?_
        refine x_leq (tgt := 33) F d_MO_same_27 d_MO_same_28 (by decide) (fun c27 => ?_) (fun c27 => ?_)
        · refine lv_iinc (v := (nI (k + 1))) (lv' := [(3, .int (nI (k + 1))), (0, .ref (ad 0)), (1, .int (nI a)), (2, .int (nI b))]) F.1 F.2.1 d_MO_same_33 hl (k := 0) rfl (nI_1 k) (by decide) rfl (fun ls hl => ?_)
          refine lv_goto (tgt := 2) F.1 F.2.1 d_MO_same_36 (by decide) ?_
          exact ih (k + 1) (by omega) (fun j h hg => by rcases Nat.lt_succ_iff_lt_or_eq.mp h with h | rfl; exact hk j h hg; exact c27) ls hl
        · refine lv_iconst (v := 0) F.1 F.2.1 d_MO_same_31 (by decide) ?_
          exact hret _ _ _ d_MO_same_32 (by rw [smB_f (by omega) c12 c27]; rfl)
  refine lv_iconst (v := 1) F.1 F.2.1 d_MO_same_0 (by decide) ?_
  refine lv_istore_n (lv' := [(3, .int 1), (0, .ref (ad 0)), (1, .int (nI a)), (2, .int (nI b))]) F.1 F.2.1 d_MO_same_1 rfl hl (by decide) rfl (fun ls hl => ?_)
  exact loop 124 1 rfl (fun j h hg => by rw [show j = 0 by omega] at hg; cases hg) ls hl
/-- the paths below n with an entry in the layer of image i -/
def eI (σ : Sg) (i n : Nat) : List Nat := (List.range n).filter fun p => lg p && !decide (mkI σ i p = wNON)
theorem eI_s (σ : Sg) (i : Nat) {k : Nat} (hg : lg k = true) (h : mkI σ i k ≠ wNON) : eI σ i (k + 1) = eI σ i k ++ [k] := by
  unfold eI
  rw [List.range_succ, List.filter_append, List.filter_cons_of_pos (by simp [hg, h]), List.filter_nil]
theorem eI_n (σ : Sg) (i : Nat) {k : Nat} (h : lg k = false ∨ mkI σ i k = wNON) : eI σ i (k + 1) = eI σ i k := by
  unfold eI
  rw [List.range_succ, List.filter_append, List.filter_cons_of_neg (by rcases h with h | h <;> simp [h]), List.filter_nil, List.append_nil]
theorem eI_1 (σ : Sg) (i : Nat) : eI σ i 1 = [] := rfl
theorem eI_len (σ : Sg) (i n : Nat) : (eI σ i n).length ≤ n := by
  unfold eI
  exact Nat.le_trans (List.length_filter_le _ _) (by rw [List.length_range]; exact Nat.le_refl _)
theorem c_MO_size (l : Launch) (G : x_G) (ad : Nat → Nat) (σ : Sg) (wk : Nat → Int64) (ch : Nat → Bool) (i : Nat) (hi : i < 40) (hpi : gp σ i < 40) : Met l y_MO_size (x_ws y_MO_size b_MO_size 4 (some .int)) (x_rm 3 0 0) (x_P G [.ref (ad 0), .int (nI i)] (MO G ad σ wk ch)) (k2_QcV (.int (nI (eI σ i 125).length))) 0 0 (fun _ => False) := by
  refine x_mI (by decide +kernel) (Nat.le_of_ble_eq_true rfl) (fun p e s m args below meth c F hK hP ls hl Q hret => ?_)
  have hl : lv_has ls 4 [(0, .ref (ad 0)), (1, .int (nI i))] := hl
  obtain ⟨hO, -⟩ := id hP
  have loop : ∀ (n k : Nat), k + n = 125 → ∀ ls : Array Slot, lv_has ls 4 [(3, .int (nI k)), (2, .int (nI (eI σ i k).length)), (0, .ref (ad 0)), (1, .int (nI i))] → W p l e (x_rm 3 0 0) s m args below meth c s.heap [] 0 0 Q (F0 m 4 ls []) := by
    intro n
    induction n with
    | zero =>
      intro k hn ls hl
      obtain rfl : k = 125 := by omega
      refine lv_iload_n F.1 F.2.1 d_MO_size_4 rfl (lv_at hl 0 rfl) ?_
      refine lv_bipush (v := 125) F.1 F.2.1 d_MO_size_5 (by decide) ?_
      refine lv_icmp_ge (tgt := 39) F.1 F.2.1 d_MO_size_7 (by decide) (fun _ => ?_) (fun zq => absurd (pN_le (a := 125) (b := 125) rfl rfl (by omega) (by omega) (by omega)) zq)
      refine lv_iload_n F.1 F.2.1 d_MO_size_39 rfl (lv_at hl 1 rfl) ?_
      exact hret _ _ _ d_MO_size_40 rfl
    | succ n ih =>
      intro k hn ls hl
      have hle := eI_len σ i k
      refine lv_iload_n F.1 F.2.1 d_MO_size_4 rfl (lv_at hl 0 rfl) ?_
      refine lv_bipush (v := 125) F.1 F.2.1 d_MO_size_5 (by decide) ?_
      refine lv_icmp_ge (tgt := 39) F.1 F.2.1 d_MO_size_7 (by decide) (fun zq => absurd zq (pN_nle (a := 125) (b := k) rfl rfl (by omega) (by omega) (by omega))) (fun _ => ?_)
      refine lv_iload_n F.1 F.2.1 d_MO_size_10 rfl (lv_at hl 0 rfl) ?_
      refine x_rd (x_S (n := 1) (As := [.int (nI k)]) F (c_MO_legal l G (nI k)) ok_MO_legal k516 ⟨Nat.le_of_ble_eq_true rfl, Nat.le_of_ble_eq_true rfl⟩ rfl rfl hK (trivial) rfl hl.1 rfl (Nat.le_of_ble_eq_true rfl) d_MO_size_11 ⟨Nat.le_of_ble_eq_true rfl, Nat.le_of_ble_eq_true rfl⟩) ?_
      rw [mo_legal_n k (by omega)]
      refine x_beq (tgt := 33) F d_MO_size_14 (by decide) (fun c14 => ?_) (fun c14 => ?_)
      · refine lv_iinc (v := (nI (k + 1))) (lv' := [(3, .int (nI (k + 1))), (2, .int (nI (eI σ i k).length)), (0, .ref (ad 0)), (1, .int (nI i))]) F.1 F.2.1 d_MO_size_33 hl (k := 0) rfl (nI_1 k) (by decide) rfl (fun ls hl => ?_)
        refine lv_goto (tgt := 4) F.1 F.2.1 d_MO_size_36 (by decide) ?_
        exact ih (k + 1) (by omega) ls (by rw [eI_n σ i (Or.inl c14)]; exact hl)
      · refine lv_aload_n F.1 F.2.1 d_MO_size_17 rfl (lv_at hl 2 rfl) ?_
        refine lv_iload_n F.1 F.2.1 d_MO_size_18 rfl (lv_at hl 3 rfl) ?_
        refine lv_iload_n F.1 F.2.1 d_MO_size_19 rfl (lv_at hl 0 rfl) ?_
        refine x_rd (x_V (n := 2) (As := [.int (nI i), .int (nI k)]) F (c_MO_mark l G ad σ wk ch i k hi (by omega) hpi) ok_MO_mark k619 ⟨Nat.le_of_ble_eq_true rfl, Nat.le_of_ble_eq_true rfl⟩ rfl rfl hK (x_rcv hK hO rfl) (hP) rfl hl.1 rfl (Nat.le_of_ble_eq_true rfl) d_MO_size_20 ⟨Nat.le_of_ble_eq_true rfl, Nat.le_of_ble_eq_true rfl⟩) ?_
        refine x_cst F k623 d_MO_size_23 ?_
        refine x_leq (tgt := 33) F d_MO_size_26 d_MO_size_27 (by decide) (fun c26 => ?_) (fun c26 => ?_)
        · refine lv_iinc (v := (nI (k + 1))) (lv' := [(3, .int (nI (k + 1))), (2, .int (nI (eI σ i k).length)), (0, .ref (ad 0)), (1, .int (nI i))]) F.1 F.2.1 d_MO_size_33 hl (k := 0) rfl (nI_1 k) (by decide) rfl (fun ls hl => ?_)
          refine lv_goto (tgt := 4) F.1 F.2.1 d_MO_size_36 (by decide) ?_
          exact ih (k + 1) (by omega) ls (by rw [eI_n σ i (Or.inr c26)]; exact hl)
        · refine lv_iinc (v := (nI ((eI σ i k).length + 1))) (lv' := [(2, .int (nI ((eI σ i k).length + 1))), (3, .int (nI k)), (0, .ref (ad 0)), (1, .int (nI i))]) F.1 F.2.1 d_MO_size_30 hl (k := 1) rfl (nI_1 ((eI σ i k).length)) (by decide) rfl (fun ls hl => ?_)
          refine lv_iinc (v := (nI (k + 1))) (lv' := [(3, .int (nI (k + 1))), (2, .int (nI ((eI σ i k).length + 1))), (0, .ref (ad 0)), (1, .int (nI i))]) F.1 F.2.1 d_MO_size_33 hl (k := 1) rfl (nI_1 k) (by decide) rfl (fun ls hl => ?_)
          refine lv_goto (tgt := 4) F.1 F.2.1 d_MO_size_36 (by decide) ?_
          exact ih (k + 1) (by omega) ls (by rw [eI_s σ i c14 c26, List.length_append]; exact hl)
  refine lv_iconst (v := 0) F.1 F.2.1 d_MO_size_0 (by decide) ?_
  refine lv_istore_n (lv' := [(2, .int 0), (0, .ref (ad 0)), (1, .int (nI i))]) F.1 F.2.1 d_MO_size_1 rfl hl (by decide) rfl (fun ls hl => ?_)
  refine lv_iconst (v := 1) F.1 F.2.1 d_MO_size_2 (by decide) ?_
  refine lv_istore_n (lv' := [(3, .int 1), (2, .int 0), (0, .ref (ad 0)), (1, .int (nI i))]) F.1 F.2.1 d_MO_size_3 rfl hl (by decide) rfl (fun ls hl => ?_)
  exact loop 124 1 rfl ls (by rw [eI_1]; exact hl)
def thB (σ : Sg) (ch : Nat → Bool) (i lim : Nat) : Bool := (List.range lim).any fun j => decide (j ≠ 0) && ch j && smB σ j i
theorem thB_t {σ : Sg} {ch : Nat → Bool} {i lim j : Nat} (h0 : j ≠ 0) (h1 : j < lim) (h2 : ch j = true) (h3 : smB σ j i = true) : thB σ ch i lim = true :=
  List.any_eq_true.mpr ⟨j, List.mem_range.mpr h1, by rw [decide_eq_true h0, h2, h3]; rfl⟩
theorem thB_f {σ : Sg} {ch : Nat → Bool} {i lim : Nat} (h : ∀ j, 0 < j → j < lim → ch j = true → smB σ j i = false) : thB σ ch i lim = false := by
  refine List.any_eq_false.mpr (fun j hj => ?_)
  have hj := List.mem_range.mp hj
  by_cases h0 : j = 0
  · simp [h0]
  · cases hc : ch j with
    | false => simp
    | true => rw [h j (by omega) hj hc]; simp
theorem c_MO_there (l : Launch) (G : x_G) (ad : Nat → Nat) (σ : Sg) (wk : Nat → Int64) (ch : Nat → Bool) (i lim : Nat) (hi : i < 40) (hlim : lim ≤ 40) (hpr : ∀ i, 0 < i → gp σ i < i) (hp0 : gp σ 0 < 40) : Met l y_MO_there (x_ws y_MO_there b_MO_there 4 (some .boolean)) (x_rm 4 0 0) (x_P G [.ref (ad 0), .int (nI i), .int (nI lim)] (MO G ad σ wk ch)) (k2_QcV (.int (x_b (thB σ ch i lim)))) 0 0 (fun _ => False) := by
  refine x_mZ (by decide +kernel) (Nat.le_of_ble_eq_true rfl) (fun p e s m args below meth c F hK hP ls hl Q hret => ?_)
  have hl : lv_has ls 4 [(0, .ref (ad 0)), (1, .int (nI i)), (2, .int (nI lim))] := hl
  obtain ⟨hO, hp, ht, hh, hg, hw, hc, hj⟩ := id hP
  have hpl : ∀ j, j < 40 → gp σ j < 40 := fun j hj => by rcases Nat.eq_zero_or_pos j with rfl | q; exact hp0; have := hpr j q; omega
  have loop : ∀ (n k : Nat), k + n = max lim 1 → 1 ≤ k → (∀ j, 0 < j → j < k → ch j = true → smB σ j i = false) → ∀ ls : Array Slot, lv_has ls 4 [(3, .int (nI k)), (0, .ref (ad 0)), (1, .int (nI i)), (2, .int (nI lim))] → W p l e (x_rm 4 0 0) s m args below meth c s.heap [] 0 0 Q (F0 m 2 ls []) := by
    intro n
    induction n with
    | zero =>
      intro k hn hk1 hk ls hl
      refine lv_iload_n F.1 F.2.1 d_MO_there_2 rfl (lv_at hl 0 rfl) ?_
      refine lv_iload_n F.1 F.2.1 d_MO_there_3 rfl (lv_at hl 3 rfl) ?_
      refine lv_icmp_ge (tgt := 33) F.1 F.2.1 d_MO_there_4 (by decide) (fun _ => ?_) (fun zq => absurd (pN_le (a := lim) (b := k) rfl rfl (by omega) (by omega) (by omega)) zq)
      refine lv_iconst (v := 0) F.1 F.2.1 d_MO_there_33 (by decide) ?_
      exact hret _ _ _ d_MO_there_34 (by rw [thB_f (fun j h0 h => hk j h0 (by omega))]; rfl)
    | succ n ih =>
      intro k hn hk1 hk ls hl
      refine lv_iload_n F.1 F.2.1 d_MO_there_2 rfl (lv_at hl 0 rfl) ?_
      refine lv_iload_n F.1 F.2.1 d_MO_there_3 rfl (lv_at hl 3 rfl) ?_
      refine lv_icmp_ge (tgt := 33) F.1 F.2.1 d_MO_there_4 (by decide) (fun zq => absurd zq (pN_nle (a := lim) (b := k) rfl rfl (by omega) (by omega) (by omega))) (fun _ => ?_)
      refine lv_aload_n F.1 F.2.1 d_MO_there_7 rfl (lv_at hl 1 rfl) ?_
      refine x_get F hK hO rfl i_MO 6 (by decide) k485 rfl rfl d_MO_there_8 ?_
      refine lv_iload_n F.1 F.2.1 d_MO_there_11 rfl (lv_at hl 0 rfl) ?_
      refine x_zaldN F hK hc (by decide) (by omega) d_MO_there_12 ?_
      refine x_beq (tgt := 27) F d_MO_there_13 (by decide) (fun c13 => ?_) (fun c13 => ?_)
      · refine lv_iinc (v := (nI (k + 1))) (lv' := [(3, .int (nI (k + 1))), (0, .ref (ad 0)), (1, .int (nI i)), (2, .int (nI lim))]) F.1 F.2.1 d_MO_there_27 hl (k := 0) rfl (nI_1 k) (by decide) rfl (fun ls hl => ?_)
        refine lv_goto (tgt := 2) F.1 F.2.1 d_MO_there_30 (by decide) ?_
        exact ih (k + 1) (by omega) (by omega) (fun j h0 h hcj => by rcases Nat.lt_succ_iff_lt_or_eq.mp h with h | rfl; exact hk j h0 h hcj; rw [c13] at hcj; cases hcj) ls hl
      · refine lv_aload_n F.1 F.2.1 d_MO_there_16 rfl (lv_at hl 1 rfl) ?_
        refine lv_iload_n F.1 F.2.1 d_MO_there_17 rfl (lv_at hl 0 rfl) ?_
        refine lv_iload_n F.1 F.2.1 d_MO_there_18 rfl (lv_at hl 2 rfl) ?_
        refine x_rd (x_V (n := 2) (As := [.int (nI k), .int (nI i)]) F (c_MO_same l G ad σ wk ch k i (by omega) hi (hpl k (by omega)) (hpl i hi)) ok_MO_same k615 ⟨Nat.le_of_ble_eq_true rfl, Nat.le_of_ble_eq_true rfl⟩ rfl rfl hK (x_rcv hK hO rfl) (hP) rfl hl.1 rfl (Nat.le_of_ble_eq_true rfl) d_MO_there_19 ⟨Nat.le_of_ble_eq_true rfl, Nat.le_of_ble_eq_true rfl⟩) ?_
        refine x_beq (tgt := 27) F d_MO_there_22 (by decide) (fun c22 => ?_) (fun c22 => ?_)
        · refine lv_iinc (v := (nI (k + 1))) (lv' := [(3, .int (nI (k + 1))), (0, .ref (ad 0)), (1, .int (nI i)), (2, .int (nI lim))]) F.1 F.2.1 d_MO_there_27 hl (k := 0) rfl (nI_1 k) (by decide) rfl (fun ls hl => ?_)
          refine lv_goto (tgt := 2) F.1 F.2.1 d_MO_there_30 (by decide) ?_
          exact ih (k + 1) (by omega) (by omega) (fun j h0 h hcj => by rcases Nat.lt_succ_iff_lt_or_eq.mp h with h | rfl; exact hk j h0 h hcj; exact c22) ls hl
        · refine lv_iconst (v := 1) F.1 F.2.1 d_MO_there_25 (by decide) ?_
          exact hret _ _ _ d_MO_there_26 (by rw [thB_t (show k ≠ 0 by omega) (by omega) c13 c22]; rfl)
  refine lv_iconst (v := 1) F.1 F.2.1 d_MO_there_0 (by decide) ?_
  refine lv_istore_n (lv' := [(3, .int 1), (0, .ref (ad 0)), (1, .int (nI i)), (2, .int (nI lim))]) F.1 F.2.1 d_MO_there_1 rfl hl (by decide) rfl (fun ls hl => ?_)
  exact loop (max lim 1 - 1) 1 (by omega) (Nat.le_refl _) (fun j h0 h => by omega) ls hl
/-- different layers among the chosen below n, or their entries together -/
def dfL (σ : Sg) (ch : Nat → Bool) (en : Bool) : Nat → Nat
  | 0 => 0
  | i + 1 => dfL σ ch en i + (if (decide (i ≠ 0) && ch i && !thB σ ch i i) = true then (if en = true then (eI σ i 125).length else 1) else 0)
theorem dfL_le (σ : Sg) (ch : Nat → Bool) (en : Bool) : ∀ n, dfL σ ch en n ≤ 125 * n := by
  intro n
  induction n with
  | zero => exact Nat.le_refl _
  | succ n ih =>
    show dfL σ ch en n + _ ≤ _
    have := eI_len σ n 125
    split
    · split <;> omega
    · omega
theorem c_MO_different (l : Launch) (G : x_G) (ad : Nat → Nat) (σ : Sg) (wk : Nat → Int64) (ch : Nat → Bool) (en : Bool) (hok : gOk σ) (hp0 : gp σ 0 < 40) : Met l y_MO_different (x_ws y_MO_different b_MO_different 4 (some .int)) (x_rm 5 0 0) (x_P G [.ref (ad 0), .int (x_b en)] (MO G ad σ wk ch)) (k2_QcV (.int (nI (dfL σ ch en (gn σ))))) 0 0 (fun _ => False) := by
  refine x_mI (by decide +kernel) (Nat.le_of_ble_eq_true rfl) (fun p e s m args below meth c F hK hP ls hl Q hret => ?_)
  have hl : lv_has ls 4 [(0, .ref (ad 0)), (1, .int (x_b en))] := hl
  obtain ⟨hO, hp, ht, hh, hg, hw, hc, hj⟩ := id hP
  have hn40 := hok.2.1
  have hn1 := hok.1
  have hpr := hok.2.2.1
  have hpl : ∀ j, j < 40 → gp σ j < 40 := fun j hj => by rcases Nat.eq_zero_or_pos j with rfl | q; exact hp0; have := hpr j q; omega
  have loop : ∀ (d k : Nat), k + d = gn σ → 1 ≤ k → ∀ ls : Array Slot, lv_has ls 4 [(3, .int (nI k)), (2, .int (nI (dfL σ ch en k))), (0, .ref (ad 0)), (1, .int (x_b en))] → W p l e (x_rm 5 0 0) s m args below meth c s.heap [] 0 0 Q (F0 m 4 ls []) := by
    intro d
    induction d with
    | zero =>
      intro k hk hk1 ls hl
      have hle := dfL_le σ ch en k
      refine lv_iload_n F.1 F.2.1 d_MO_different_4 rfl (lv_at hl 0 rfl) ?_
      refine lv_aload_n F.1 F.2.1 d_MO_different_5 rfl (lv_at hl 2 rfl) ?_
      refine x_get F hK hO rfl i_MO 2 (by decide) k481 rfl rfl d_MO_different_6 ?_
      refine lv_icmp_ge (tgt := 52) F.1 F.2.1 d_MO_different_9 (by decide) (fun _ => ?_) (fun zq => absurd (pN_le (a := (gn σ)) (b := k) rfl rfl (by omega) (by omega) (by omega)) zq)
      refine lv_iload_n F.1 F.2.1 d_MO_different_52 rfl (lv_at hl 1 rfl) ?_
      exact hret _ _ _ d_MO_different_53 (by rw [show k = gn σ by omega])
    | succ d ih =>
      intro k hk hk1 ls hl
      have hle := dfL_le σ ch en k
      have hes : dfL σ ch en (k + 1) = dfL σ ch en k + (if (decide (k ≠ 0) && ch k && !thB σ ch k k) = true then (if en = true then (eI σ k 125).length else 1) else 0) := rfl
      rw [decide_eq_true (show k ≠ 0 by omega), Bool.true_and] at hes
      refine lv_iload_n F.1 F.2.1 d_MO_different_4 rfl (lv_at hl 0 rfl) ?_
      refine lv_aload_n F.1 F.2.1 d_MO_different_5 rfl (lv_at hl 2 rfl) ?_
      refine x_get F hK hO rfl i_MO 2 (by decide) k481 rfl rfl d_MO_different_6 ?_
      refine lv_icmp_ge (tgt := 52) F.1 F.2.1 d_MO_different_9 (by decide) (fun zq => absurd zq (pN_nle (a := (gn σ)) (b := k) rfl rfl (by omega) (by omega) (by omega))) (fun _ => ?_)
      refine lv_aload_n F.1 F.2.1 d_MO_different_12 rfl (lv_at hl 2 rfl) ?_
      refine x_get F hK hO rfl i_MO 6 (by decide) k485 rfl rfl d_MO_different_13 ?_
      refine lv_iload_n F.1 F.2.1 d_MO_different_16 rfl (lv_at hl 0 rfl) ?_
      refine x_zaldN F hK hc (by decide) (by omega) d_MO_different_17 ?_
      refine x_beq (tgt := 46) F d_MO_different_18 (by decide) (fun c18 => ?_) (fun c18 => ?_)
      · refine lv_iinc (v := (nI (k + 1))) (lv' := [(3, .int (nI (k + 1))), (2, .int (nI (dfL σ ch en k))), (0, .ref (ad 0)), (1, .int (x_b en))]) F.1 F.2.1 d_MO_different_46 hl (k := 0) rfl (nI_1 k) (by decide) rfl (fun ls hl => ?_)
        refine lv_goto (tgt := 4) F.1 F.2.1 d_MO_different_49 (by decide) ?_
        exact ih (k + 1) (by omega) (by omega) ls (by rw [hes, c18, Bool.false_and, if_neg (by decide), Nat.add_zero]; exact hl)
      · refine lv_aload_n F.1 F.2.1 d_MO_different_21 rfl (lv_at hl 2 rfl) ?_
        refine lv_iload_n F.1 F.2.1 d_MO_different_22 rfl (lv_at hl 0 rfl) ?_
        refine lv_iload_n F.1 F.2.1 d_MO_different_23 rfl (lv_at hl 0 rfl) ?_
        refine x_rd (x_V (n := 2) (As := [.int (nI k), .int (nI k)]) F (c_MO_there l G ad σ wk ch k k (by omega) (by omega) hpr hp0) ok_MO_there k611 ⟨Nat.le_of_ble_eq_true rfl, Nat.le_of_ble_eq_true rfl⟩ rfl rfl hK (x_rcv hK hO rfl) (hP) rfl hl.1 rfl (Nat.le_of_ble_eq_true rfl) d_MO_different_24 ⟨Nat.le_of_ble_eq_true rfl, Nat.le_of_ble_eq_true rfl⟩) ?_
        refine x_bne (tgt := 46) F d_MO_different_27 (by decide) (fun c27 => ?_) (fun c27 => ?_)
        · refine lv_iinc (v := (nI (k + 1))) (lv' := [(3, .int (nI (k + 1))), (2, .int (nI (dfL σ ch en k))), (0, .ref (ad 0)), (1, .int (x_b en))]) F.1 F.2.1 d_MO_different_46 hl (k := 0) rfl (nI_1 k) (by decide) rfl (fun ls hl => ?_)
          refine lv_goto (tgt := 4) F.1 F.2.1 d_MO_different_49 (by decide) ?_
          exact ih (k + 1) (by omega) (by omega) ls (by rw [hes, c18, c27, Bool.not_true, Bool.and_false, if_neg (by decide), Nat.add_zero]; exact hl)
        · refine lv_iload_n F.1 F.2.1 d_MO_different_30 rfl (lv_at hl 1 rfl) ?_
          refine lv_iload_n F.1 F.2.1 d_MO_different_31 rfl (lv_at hl 3 rfl) ?_
          refine x_beq (tgt := 43) F d_MO_different_32 (by decide) (fun c32 => ?_) (fun c32 => ?_)
          · refine lv_iconst (v := 1) F.1 F.2.1 d_MO_different_43 (by decide) ?_
            refine lv_iadd F.1 F.2.1 d_MO_different_44 ?_
            rw [show nI (dfL σ ch en k) + 1 = nI (dfL σ ch en k + 1) from nI_1 _]
            refine lv_istore_n (lv' := [(2, .int (nI (dfL σ ch en k + 1))), (3, .int (nI k)), (0, .ref (ad 0)), (1, .int (x_b en))]) F.1 F.2.1 d_MO_different_45 rfl hl (by decide) rfl (fun ls hl => ?_)
            refine lv_iinc (v := (nI (k + 1))) (lv' := [(3, .int (nI (k + 1))), (2, .int (nI (dfL σ ch en k + 1))), (0, .ref (ad 0)), (1, .int (x_b en))]) F.1 F.2.1 d_MO_different_46 hl (k := 1) rfl (nI_1 k) (by decide) rfl (fun ls hl => ?_)
            refine lv_goto (tgt := 4) F.1 F.2.1 d_MO_different_49 (by decide) ?_
            exact ih (k + 1) (by omega) (by omega) ls (by rw [hes, c18, c27, if_pos (show (true && !false) = true from rfl), if_neg (by rw [c32]; decide)]; exact hl)
          · refine lv_aload_n F.1 F.2.1 d_MO_different_35 rfl (lv_at hl 2 rfl) ?_
            refine lv_iload_n F.1 F.2.1 d_MO_different_36 rfl (lv_at hl 0 rfl) ?_
            refine x_rd (x_V (n := 1) (As := [.int (nI k)]) F (c_MO_size l G ad σ wk ch k (by omega) (hpl k (by omega))) ok_MO_size k625 ⟨Nat.le_of_ble_eq_true rfl, Nat.le_of_ble_eq_true rfl⟩ rfl rfl hK (x_rcv hK hO rfl) (hP) rfl hl.1 rfl (Nat.le_of_ble_eq_true rfl) d_MO_different_37 ⟨Nat.le_of_ble_eq_true rfl, Nat.le_of_ble_eq_true rfl⟩) ?_
            refine lv_goto (tgt := 44) F.1 F.2.1 d_MO_different_40 (by decide) ?_
            refine lv_iadd F.1 F.2.1 d_MO_different_44 ?_
            rw [nI_add]
            refine lv_istore_n (lv' := [(2, .int (nI (dfL σ ch en k + (eI σ k 125).length))), (3, .int (nI k)), (0, .ref (ad 0)), (1, .int (x_b en))]) F.1 F.2.1 d_MO_different_45 rfl hl (by decide) rfl (fun ls hl => ?_)
            refine lv_iinc (v := (nI (k + 1))) (lv' := [(3, .int (nI (k + 1))), (2, .int (nI (dfL σ ch en k + (eI σ k 125).length))), (0, .ref (ad 0)), (1, .int (x_b en))]) F.1 F.2.1 d_MO_different_46 hl (k := 1) rfl (nI_1 k) (by decide) rfl (fun ls hl => ?_)
            refine lv_goto (tgt := 4) F.1 F.2.1 d_MO_different_49 (by decide) ?_
            exact ih (k + 1) (by omega) (by omega) ls (by rw [hes, c18, c27, if_pos (show (true && !false) = true from rfl), if_pos c32]; exact hl)
  refine lv_iconst (v := 0) F.1 F.2.1 d_MO_different_0 (by decide) ?_
  refine lv_istore_n (lv' := [(2, .int 0), (0, .ref (ad 0)), (1, .int (x_b en))]) F.1 F.2.1 d_MO_different_1 rfl hl (by decide) rfl (fun ls hl => ?_)
  refine lv_iconst (v := 1) F.1 F.2.1 d_MO_different_2 (by decide) ?_
  refine lv_istore_n (lv' := [(3, .int 1), (2, .int 0), (0, .ref (ad 0)), (1, .int (x_b en))]) F.1 F.2.1 d_MO_different_3 rfl hl (by decide) rfl (fun ls hl => ?_)
  exact loop (gn σ - 1) 1 (by omega) (Nat.le_refl _) ls (by show lv_has ls 4 [(3, .int (nI 1)), (2, .int (nI (0 + _))), _, _]; rw [if_neg (by simp)]; exact hl)
end
section
/-! ===== the model: load, answer, choosing ===== -/
def MW (G : x_G) (ad : Nat → Nat) (σ : Sg) (wk : Nat → Int64) (ch : Nat → Bool) (v0 : Option Value) : Option Value → Heap → Heap → Prop := fun r H H1 => r = v0 ∧ MO G ad σ wk ch H1 ∧ x_off (mA ad) H H1
def fillF (f g : Nat → Int64) (k : Nat) : Nat → Int64 := fun j => if j < k then g j else f j
theorem fillF_s (f g : Nat → Int64) (k : Nat) : vp_updL (fillF f g k) k (g k) = fillF f g (k + 1) := funext fun j => by
  unfold vp_updL fillF
  by_cases h : j = k
  · rw [if_pos h, if_pos (by omega), h]
  · by_cases h2 : j < k
    · rw [if_neg h, if_pos h2, if_pos (by omega)]
    · rw [if_neg h, if_neg h2, if_neg (by omega)]
theorem c_MO_load (l : Launch) (G : x_G) (ad : Nat → Nat) (σ : Sg) (wk : Nat → Int64) (ch : Nat → Bool) (i : Nat) (hi : i < 40) : Met l y_MO_load (x_ws y_MO_load b_MO_load 3 none) (x_rm 0 0 0) (x_P G [.ref (ad 0), .int (nI i)] (MO G ad σ wk ch)) (x_Q (MW G ad σ (gt σ i) ch none)) 0 0 (mA ad) := by
  refine x_wV (by decide +kernel) (Nat.le_of_ble_eq_true rfl) (fun p e s m args below meth c F hnm hK hP ls hl Q hret => ?_)
  have hl : lv_has ls 3 [(0, .ref (ad 0)), (1, .int (nI i))] := hl
  have hS : va_S (mA ad) s.heap s.heap [] := va_S.rf
  have loop : ∀ (n k : Nat), k + n = 125 → ∀ (H : Heap) (locs : List Loc), MO G ad σ (fillF wk (gt σ i) k) ch H → va_S (mA ad) s.heap H locs → ∀ ls : Array Slot, lv_has ls 3 [(2, .int (nI k)), (0, .ref (ad 0)), (1, .int (nI i))] → W p l e (x_rm 0 0 0) s m args below meth c H locs 0 0 Q (F0 m 2 ls []) := by
    intro n
    induction n with
    | zero =>
      intro k hn H locs hP hS ls hl
      obtain ⟨hO, hp, ht, hh, hg, hw, hc, hj⟩ := hP
      refine lv_iload_n F.1 F.2.1 d_MO_load_2 rfl (lv_at hl 0 rfl) ?_
      refine lv_bipush (v := 125) F.1 F.2.1 d_MO_load_3 (by decide) ?_
      refine lv_icmp_ge (tgt := 31) F.1 F.2.1 d_MO_load_5 (by decide) (fun _ => ?_) (fun zq => absurd (pN_le (a := 125) (b := k) rfl rfl (by omega) (by omega) (by omega)) zq)
      exact hret _ _ _ _ _ _ d_MO_load_31 ⟨rfl, ⟨hO, hp, ht, hh, hg, x_al.cg hw (fun j h => if_pos (by omega)), hc, hj⟩, hS.off⟩ hS.2.2 (Nat.le_refl _) (Nat.le_refl _)
    | succ n ih =>
      intro k hn H locs hP hS ls hl
      obtain ⟨hO, hp, ht, hh, hg, hw, hc, hj⟩ := hP
      refine lv_iload_n F.1 F.2.1 d_MO_load_2 rfl (lv_at hl 0 rfl) ?_
      refine lv_bipush (v := 125) F.1 F.2.1 d_MO_load_3 (by decide) ?_
      refine lv_icmp_ge (tgt := 31) F.1 F.2.1 d_MO_load_5 (by decide) (fun zq => absurd zq (pN_nle (a := 125) (b := k) rfl rfl (by omega) (by omega) (by omega))) (fun _ => ?_)
      refine lv_aload_n F.1 F.2.1 d_MO_load_8 rfl (lv_at hl 1 rfl) ?_
      refine x_get F hK hO rfl i_MO 5 (by decide) k484 rfl rfl d_MO_load_9 ?_
      refine lv_iload_n F.1 F.2.1 d_MO_load_12 rfl (lv_at hl 0 rfl) ?_
      refine lv_aload_n F.1 F.2.1 d_MO_load_13 rfl (lv_at hl 1 rfl) ?_
      refine x_get F hK hO rfl i_MO 1 (by decide) k480 rfl rfl d_MO_load_14 ?_
      refine lv_bipush (v := 125) F.1 F.2.1 d_MO_load_17 (by decide) ?_
      refine lv_iload_n F.1 F.2.1 d_MO_load_19 rfl (lv_at hl 2 rfl) ?_
      refine lv_imul F.1 F.2.1 d_MO_load_20 ?_
      refine lv_iload_n F.1 F.2.1 d_MO_load_21 rfl (lv_at hl 0 rfl) ?_
      refine lv_iadd F.1 F.2.1 d_MO_load_22 ?_
      rw [e125]
      refine x_laldN F hK ht (by decide) (by omega) d_MO_load_23 ?_
      rw [mT_at (by omega)]
      refine x_lastN F hK hw (by decide) (by omega) hS ⟨5, by omega, rfl⟩ d_MO_load_24 (fun H1 locs hw hz1 ho1 hS => ?_)
      have hO := va_at.kept hO (ho1 _ (hj.ne 0 5))
      have hp := va_at.kept hp (ho1 _ (hj.ne 1 5))
      have ht := va_at.kept ht (ho1 _ (hj.ne 2 5))
      have hh := va_at.kept hh (ho1 _ (hj.ne 3 5))
      have hg := va_at.kept hg (ho1 _ (hj.ne 4 5))
      have hc := va_at.kept hc (ho1 _ (hj.ne 6 5))
      refine lv_iinc (v := (nI (k + 1))) (lv' := [(2, .int (nI (k + 1))), (0, .ref (ad 0)), (1, .int (nI i))]) F.1 F.2.1 d_MO_load_25 hl (k := 0) rfl (nI_1 k) (by decide) rfl (fun ls hl => ?_)
      refine lv_goto (tgt := 2) F.1 F.2.1 d_MO_load_28 (by decide) ?_
      exact ih (k + 1) (by omega) _ _ ⟨hO, hp, ht, hh, hg, (by rw [← fillF_s]; exact hw), hc, hj⟩ hS ls hl
  refine lv_iconst (v := 0) F.1 F.2.1 d_MO_load_0 (by decide) ?_
  refine lv_istore_n (lv' := [(2, .int 0), (0, .ref (ad 0)), (1, .int (nI i))]) F.1 F.2.1 d_MO_load_1 rfl hl (by decide) rfl (fun ls hl => ?_)
  exact loop 125 0 rfl _ _ (by obtain ⟨hO, hp, ht, hh, hg, hw, hc, hj⟩ := hP; exact ⟨hO, hp, ht, hh, hg, x_al.cg hw (fun j _ => (if_neg (Nat.not_lt_zero j)).symm), hc, hj⟩) hS ls hl
def gSet (h : Nat → Nat → Bool) (s i : Nat) (v : Bool) : Nat → Nat → Bool := fun s' j => if s' = s ∧ j = i then v else h s' j
theorem mH_set (σ : Sg) {s i : Nat} (hi : i < 40) (v : Bool) : upd (mH σ) (40 * s + i) (x_b v) = mH (gn σ, gp σ, gt σ, gSet (gh σ) s i v, gg σ, ga σ) := funext fun k => by
  unfold upd mH gSet
  by_cases h : k = 40 * s + i
  · rw [if_pos h]
    show _ = x_b (if k / 40 = s ∧ k % 40 = i then v else gh σ (k / 40) (k % 40))
    rw [if_pos (by omega)]
  · rw [if_neg h]
    show _ = x_b (if k / 40 = s ∧ k % 40 = i then v else gh σ (k / 40) (k % 40))
    rw [if_neg (by omega)]
/-- an image is answered: counted if store 0 held it, and held from now on -/
def ansS (σ : Sg) (i : Nat) : Sg := (gn σ, gp σ, gt σ, gSet (gh σ) 0 i true, gg σ, if gh σ 0 i = true then ga σ + 1 else ga σ)
theorem c_MO_answer (l : Launch) (G : x_G) (ad : Nat → Nat) (σ : Sg) (wk : Nat → Int64) (ch : Nat → Bool) (i : Nat) (hi : i < 40) : Met l y_MO_answer (x_ws y_MO_answer b_MO_answer 2 (some .int)) (x_rm 0 0 0) (x_P G [.ref (ad 0), .int (nI i)] (MO G ad σ wk ch)) (x_Q (MW G ad (ansS σ i) wk ch (some (.int (nI i))))) 0 0 (mA ad) := by
  refine x_wI (by decide +kernel) (Nat.le_of_ble_eq_true rfl) (fun p e s m args below meth c F hK hP ls hl Q hret => ?_)
  have hl : lv_has ls 2 [(0, .ref (ad 0)), (1, .int (nI i))] := hl
  have hS : va_S (mA ad) s.heap s.heap [] := va_S.rf
  obtain ⟨hO, hp, ht, hh, hg, hw, hc, hj⟩ := hP
  have h0 : mH σ i = x_b (gh σ 0 i) := by have := mH_at (σ := σ) (i := 0) hi; rw [Nat.mul_zero, Nat.zero_add] at this; exact this
  have hset := mH_set σ (s := 0) hi true
  rw [Nat.mul_zero, Nat.zero_add] at hset
  refine lv_aload_n F.1 F.2.1 d_MO_answer_0 rfl (lv_at hl 0 rfl) ?_
  refine x_get F hK hO rfl i_MO 3 (by decide) k482 rfl rfl d_MO_answer_1 ?_
  refine lv_iload_n F.1 F.2.1 d_MO_answer_4 rfl (lv_at hl 1 rfl) ?_
  refine x_zaldN F hK hh (by decide) (by omega) d_MO_answer_5 ?_
  rw [h0]
  refine x_beq (tgt := 19) F d_MO_answer_6 (by decide) (fun c6 => ?_) (fun c6 => ?_)
  · refine lv_aload_n F.1 F.2.1 d_MO_answer_19 rfl (lv_at hl 0 rfl) ?_
    refine x_get F hK hO rfl i_MO 3 (by decide) k482 rfl rfl d_MO_answer_20 ?_
    refine lv_iload_n F.1 F.2.1 d_MO_answer_23 rfl (lv_at hl 1 rfl) ?_
    refine lv_iconst (v := 1) F.1 F.2.1 d_MO_answer_24 (by decide) ?_
    refine x_zastN F hK hh (by first | rfl | decide) (by decide) (by omega) hS ⟨3, by omega, rfl⟩ d_MO_answer_25 (fun H2 locs hh hz2 ho2 hS => ?_)
    have hO := va_at.kept hO (ho2 _ (hj.ne 0 3))
    have hp := va_at.kept hp (ho2 _ (hj.ne 1 3))
    have ht := va_at.kept ht (ho2 _ (hj.ne 2 3))
    have hg := va_at.kept hg (ho2 _ (hj.ne 4 3))
    have hw := va_at.kept hw (ho2 _ (hj.ne 5 3))
    have hc := va_at.kept hc (ho2 _ (hj.ne 6 3))
    refine lv_iload_n F.1 F.2.1 d_MO_answer_26 rfl (lv_at hl 1 rfl) ?_
    refine hret _ _ _ _ _ _ _ d_MO_answer_27 ⟨rfl, ⟨?_, hp, ht, x_az.cg hh (fun j _ => congrFun hset j), hg, hw, hc, hj⟩, hS.off⟩ hS.2.2 (Nat.le_refl _) (Nat.le_refl _)
    show va_at _ _ (_, .inr (6, [_, _, _, _, _, _, _, .int (if gh σ 0 i = true then ga σ + 1 else ga σ)])) _
    rw [if_neg (by rw [c6]; decide)]
    exact hO
  · refine lv_aload_n F.1 F.2.1 d_MO_answer_9 rfl (lv_at hl 0 rfl) ?_
    refine lv_dup F.1 F.2.1 d_MO_answer_10 rfl ?_
    refine x_get F hK hO rfl i_MO 7 (by decide) k486 rfl rfl d_MO_answer_11 ?_
    refine lv_iconst (v := 1) F.1 F.2.1 d_MO_answer_14 (by decide) ?_
    refine lv_iadd F.1 F.2.1 d_MO_answer_15 ?_
    refine x_put F hK hO rfl i_MO t_MO p_MO n_MO 7 (by decide) k486 rfl rfl rfl rfl (Nat.le_of_ble_eq_true rfl) hS ⟨0, by omega, rfl⟩ d_MO_answer_16 (fun H3 locs hO hz3 ho3 hS => ?_)
    have hO : va_at G.1 x_cl ((ad 0), .inr (6, [.ref (ad 1), .ref (ad 2), .int (nI (gn σ)), .ref (ad 3), .ref (ad 4), .ref (ad 5), .ref (ad 6), .int ((ga σ) + 1)])) H3 := hO
    have hp := va_at.kept hp (ho3 _ (hj.ne 1 0))
    have ht := va_at.kept ht (ho3 _ (hj.ne 2 0))
    have hh := va_at.kept hh (ho3 _ (hj.ne 3 0))
    have hg := va_at.kept hg (ho3 _ (hj.ne 4 0))
    have hw := va_at.kept hw (ho3 _ (hj.ne 5 0))
    have hc := va_at.kept hc (ho3 _ (hj.ne 6 0))
    refine lv_aload_n F.1 F.2.1 d_MO_answer_19 rfl (lv_at hl 0 rfl) ?_
    refine x_get F hK hO rfl i_MO 3 (by decide) k482 rfl rfl d_MO_answer_20 ?_
    refine lv_iload_n F.1 F.2.1 d_MO_answer_23 rfl (lv_at hl 1 rfl) ?_
    refine lv_iconst (v := 1) F.1 F.2.1 d_MO_answer_24 (by decide) ?_
    refine x_zastN F hK hh (by first | rfl | decide) (by decide) (by omega) hS ⟨3, by omega, rfl⟩ d_MO_answer_25 (fun H4 locs hh hz4 ho4 hS => ?_)
    have hO := va_at.kept hO (ho4 _ (hj.ne 0 3))
    have hp := va_at.kept hp (ho4 _ (hj.ne 1 3))
    have ht := va_at.kept ht (ho4 _ (hj.ne 2 3))
    have hg := va_at.kept hg (ho4 _ (hj.ne 4 3))
    have hw := va_at.kept hw (ho4 _ (hj.ne 5 3))
    have hc := va_at.kept hc (ho4 _ (hj.ne 6 3))
    refine lv_iload_n F.1 F.2.1 d_MO_answer_26 rfl (lv_at hl 1 rfl) ?_
    refine hret _ _ _ _ _ _ _ d_MO_answer_27 ⟨rfl, ⟨?_, hp, ht, x_az.cg hh (fun j _ => congrFun hset j), hg, hw, hc, hj⟩, hS.off⟩ hS.2.2 (Nat.le_refl _) (Nat.le_refl _)
    show va_at _ _ (_, .inr (6, [_, _, _, _, _, _, _, .int (if gh σ 0 i = true then ga σ + 1 else ga σ)])) _
    rw [if_pos c6]
    exact hO
theorem mC_or (ch : Nat → Bool) (i : Nat) : upd (mC ch) i 1 = mC (hOr ch i) := funext fun k => by
  unfold upd mC hOr
  by_cases h : k = i
  · rw [if_pos h, decide_eq_true h, Bool.or_true]; rfl
  · rw [if_neg h, decide_eq_false h, Bool.or_false]
def clr (ch : Nat → Bool) (k : Nat) : Nat → Bool := fun j => if j < k then false else ch j
theorem mC_clr (ch : Nat → Bool) (k : Nat) : upd (mC (clr ch k)) k 0 = mC (clr ch (k + 1)) := funext fun j => by
  unfold upd mC clr
  by_cases e : j = k
  · rw [if_pos e, if_pos (by omega)]; rfl
  · rw [if_neg e]
    by_cases h : j < k
    · rw [if_pos h, if_pos (by omega)]
    · rw [if_neg h, if_neg (by omega)]
theorem c_MO_chooseNone (l : Launch) (G : x_G) (ad : Nat → Nat) (σ : Sg) (wk : Nat → Int64) (ch : Nat → Bool) : Met l y_MO_chooseNone (x_ws y_MO_chooseNone b_MO_chooseNone 2 none) (x_rm 0 0 0) (x_P G [.ref (ad 0)] (MO G ad σ wk ch)) (x_Q (MW G ad σ wk (fun _ => false) none)) 0 0 (mA ad) := by
  refine x_wV (by decide +kernel) (Nat.le_of_ble_eq_true rfl) (fun p e s m args below meth c F hnm hK hP ls hl Q hret => ?_)
  have hl : lv_has ls 2 [(0, .ref (ad 0))] := hl
  have hS : va_S (mA ad) s.heap s.heap [] := va_S.rf
  have loop : ∀ (n k : Nat), k + n = 40 → ∀ (H : Heap) (locs : List Loc), MO G ad σ wk (clr ch k) H → va_S (mA ad) s.heap H locs → ∀ ls : Array Slot, lv_has ls 2 [(1, .int (nI k)), (0, .ref (ad 0))] → W p l e (x_rm 0 0 0) s m args below meth c H locs 0 0 Q (F0 m 2 ls []) := by
    intro n
    induction n with
    | zero =>
      intro k hn H locs hP hS ls hl
      obtain ⟨hO, hp, ht, hh, hg, hw, hc, hj⟩ := hP
      refine lv_iload_n F.1 F.2.1 d_MO_chooseNone_2 rfl (lv_at hl 0 rfl) ?_
      refine lv_bipush (v := 40) F.1 F.2.1 d_MO_chooseNone_3 (by decide) ?_
      refine lv_icmp_ge (tgt := 21) F.1 F.2.1 d_MO_chooseNone_5 (by decide) (fun _ => ?_) (fun zq => absurd (pN_le (a := 40) (b := k) rfl rfl (by omega) (by omega) (by omega)) zq)
      refine hret _ _ _ _ _ _ d_MO_chooseNone_21 ⟨rfl, ⟨hO, hp, ht, hh, hg, hw, x_az.cg hc (fun j h => ?_), hj⟩, hS.off⟩ hS.2.2 (Nat.le_refl _) (Nat.le_refl _)
      show x_b (if j < k then false else ch j) = _
      rw [if_pos (by omega)]; rfl
    | succ n ih =>
      intro k hn H locs hP hS ls hl
      obtain ⟨hO, hp, ht, hh, hg, hw, hc, hj⟩ := hP
      refine lv_iload_n F.1 F.2.1 d_MO_chooseNone_2 rfl (lv_at hl 0 rfl) ?_
      refine lv_bipush (v := 40) F.1 F.2.1 d_MO_chooseNone_3 (by decide) ?_
      refine lv_icmp_ge (tgt := 21) F.1 F.2.1 d_MO_chooseNone_5 (by decide) (fun zq => absurd zq (pN_nle (a := 40) (b := k) rfl rfl (by omega) (by omega) (by omega))) (fun _ => ?_)
      refine lv_aload_n F.1 F.2.1 d_MO_chooseNone_8 rfl (lv_at hl 1 rfl) ?_
      refine x_get F hK hO rfl i_MO 6 (by decide) k485 rfl rfl d_MO_chooseNone_9 ?_
      refine lv_iload_n F.1 F.2.1 d_MO_chooseNone_12 rfl (lv_at hl 0 rfl) ?_
      refine lv_iconst (v := 0) F.1 F.2.1 d_MO_chooseNone_13 (by decide) ?_
      refine x_zastN F hK hc (by first | rfl | decide) (by decide) (by omega) hS ⟨6, by omega, rfl⟩ d_MO_chooseNone_14 (fun H5 locs hc hz5 ho5 hS => ?_)
      have hO := va_at.kept hO (ho5 _ (hj.ne 0 6))
      have hp := va_at.kept hp (ho5 _ (hj.ne 1 6))
      have ht := va_at.kept ht (ho5 _ (hj.ne 2 6))
      have hh := va_at.kept hh (ho5 _ (hj.ne 3 6))
      have hg := va_at.kept hg (ho5 _ (hj.ne 4 6))
      have hw := va_at.kept hw (ho5 _ (hj.ne 5 6))
      refine lv_iinc (v := (nI (k + 1))) (lv' := [(1, .int (nI (k + 1))), (0, .ref (ad 0))]) F.1 F.2.1 d_MO_chooseNone_15 hl (k := 0) rfl (nI_1 k) (by decide) rfl (fun ls hl => ?_)
      refine lv_goto (tgt := 2) F.1 F.2.1 d_MO_chooseNone_18 (by decide) ?_
      exact ih (k + 1) (by omega) _ _ ⟨hO, hp, ht, hh, hg, hw, (by rw [← mC_clr]; exact hc), hj⟩ hS ls hl
  refine lv_iconst (v := 0) F.1 F.2.1 d_MO_chooseNone_0 (by decide) ?_
  refine lv_istore_n (lv' := [(1, .int 0), (0, .ref (ad 0))]) F.1 F.2.1 d_MO_chooseNone_1 rfl hl (by decide) rfl (fun ls hl => ?_)
  refine loop 40 0 rfl _ _ ?_ hS ls hl
  obtain ⟨hO, hp, ht, hh, hg, hw, hc, hj⟩ := hP
  exact ⟨hO, hp, ht, hh, hg, hw, x_az.cg hc (fun j _ => by show _ = x_b (if j < 0 then false else ch j); rw [if_neg (Nat.not_lt_zero j)]; rfl), hj⟩
/-- with the chain of i chosen too -/
def chO (par : Nat → Nat) (ch : Nat → Bool) (i : Nat) : Nat → Bool := fun x => ch x || decide (x ∈ cn par i)
theorem chO_s {par : Nat → Nat} (h : ∀ i, 0 < i → par i < i) (ch : Nat → Bool) {j : Nat} (hj : 0 < j) : chO par (hOr ch j) (par j) = chO par ch j := funext fun x => by
  unfold chO hOr
  rw [cn_s h hj]
  by_cases h1 : x = j
  · simp [h1]
  · simp [h1]
theorem c_MO_choose (l : Launch) (G : x_G) (ad : Nat → Nat) (σ : Sg) (wk : Nat → Int64) (ch : Nat → Bool) (i : Nat) (hi : i < 40) (hpr : ∀ i, 0 < i → gp σ i < i) : Met l y_MO_choose (x_ws y_MO_choose b_MO_choose 3 none) (x_rm 0 0 0) (x_P G [.ref (ad 0), .int (nI i)] (MO G ad σ wk ch)) (x_Q (MW G ad σ wk (chO (gp σ) ch i) none)) 0 0 (mA ad) := by
  refine x_wV (by decide +kernel) (Nat.le_of_ble_eq_true rfl) (fun p e s m args below meth c F hnm hK hP ls hl Q hret => ?_)
  have hl : lv_has ls 3 [(0, .ref (ad 0)), (1, .int (nI i))] := hl
  have hS : va_S (mA ad) s.heap s.heap [] := va_S.rf
  have loop : ∀ (n j : Nat) (ch' : Nat → Bool), j ≤ n → j < 40 → chO (gp σ) ch' j = chO (gp σ) ch i → ∀ (H : Heap) (locs : List Loc), MO G ad σ wk ch' H → va_S (mA ad) s.heap H locs → ∀ ls : Array Slot, lv_has ls 3 [(2, .int (nI j)), (0, .ref (ad 0)), (1, .int (nI i))] → W p l e (x_rm 0 0 0) s m args below meth c H locs 0 0 Q (F0 m 2 ls []) := by
    have fin : ∀ (ch' : Nat → Bool), chO (gp σ) ch' 0 = chO (gp σ) ch i → ∀ (H : Heap) (locs : List Loc) (ls : Array Slot), MO G ad σ wk ch' H → va_S (mA ad) s.heap H locs → W p l e (x_rm 0 0 0) s m args below meth c H locs 0 0 Q (F0 m 23 ls []) := by
      intro ch' he H locs ls hP hS
      have e2 : ch' = chO (gp σ) ch i := by rw [← he]; funext x; unfold chO; rw [cn_0]; simp
      rw [e2] at hP
      exact hret _ _ _ _ _ _ d_MO_choose_23 ⟨rfl, hP, hS.off⟩ hS.2.2 (Nat.le_refl _) (Nat.le_refl _)
    intro n
    induction n with
    | zero =>
      intro j ch' hjn hj40 he H locs hP hS ls hl
      obtain rfl : j = 0 := by omega
      refine lv_iload_n F.1 F.2.1 d_MO_choose_2 rfl (lv_at hl 0 rfl) ?_
      refine lv_if_eq (tgt := 23) F.1 F.2.1 d_MO_choose_3 (by decide) (fun _ => ?_) (fun zq => absurd (pN_eq (a := 0) (b := 0) rfl rfl (by omega) (by omega) (by omega)) zq)
      exact fin ch' he _ _ _ hP hS
    | succ n ih =>
      intro j ch' hjn hj40 he H locs hP hS ls hl
      refine lv_iload_n F.1 F.2.1 d_MO_choose_2 rfl (lv_at hl 0 rfl) ?_
      refine lv_if_eq (tgt := 23) F.1 F.2.1 d_MO_choose_3 (by decide) (fun c3 => ?_) (fun c3 => ?_)
      · have c3 := (pN_eqI (a := j) (b := 0) rfl rfl (by omega) (by omega)).mp c3
        subst c3
        exact fin ch' he _ _ _ hP hS
      · have c3 := mt (pN_eqI (a := j) (b := 0) rfl rfl (by omega) (by omega)).mpr c3
        have h0 : 0 < j := by omega
        have h1 := hpr j h0
        obtain ⟨hO, hp, ht, hh, hg, hw, hc, hj⟩ := hP
        refine lv_aload_n F.1 F.2.1 d_MO_choose_6 rfl (lv_at hl 1 rfl) ?_
        refine x_get F hK hO rfl i_MO 6 (by decide) k485 rfl rfl d_MO_choose_7 ?_
        refine lv_iload_n F.1 F.2.1 d_MO_choose_10 rfl (lv_at hl 0 rfl) ?_
        refine lv_iconst (v := 1) F.1 F.2.1 d_MO_choose_11 (by decide) ?_
        refine x_zastN F hK hc (by first | rfl | decide) (by decide) (by omega) hS ⟨6, by omega, rfl⟩ d_MO_choose_12 (fun H6 locs hc hz6 ho6 hS => ?_)
        have hO := va_at.kept hO (ho6 _ (hj.ne 0 6))
        have hp := va_at.kept hp (ho6 _ (hj.ne 1 6))
        have ht := va_at.kept ht (ho6 _ (hj.ne 2 6))
        have hh := va_at.kept hh (ho6 _ (hj.ne 3 6))
        have hg := va_at.kept hg (ho6 _ (hj.ne 4 6))
        have hw := va_at.kept hw (ho6 _ (hj.ne 5 6))
        refine lv_aload_n F.1 F.2.1 d_MO_choose_13 rfl (lv_at hl 1 rfl) ?_
        refine x_get F hK hO rfl i_MO 0 (by decide) k479 rfl rfl d_MO_choose_14 ?_
        refine lv_iload_n F.1 F.2.1 d_MO_choose_17 rfl (lv_at hl 0 rfl) ?_
        refine x_ialdN F hK hp (by decide) (by omega) d_MO_choose_18 ?_
        refine lv_istore_n (lv' := [(2, .int (nI (gp σ j))), (0, .ref (ad 0)), (1, .int (nI i))]) F.1 F.2.1 d_MO_choose_19 rfl hl (by decide) rfl (fun ls hl => ?_)
        refine lv_goto (tgt := 2) F.1 F.2.1 d_MO_choose_20 (by decide) ?_
        exact ih (gp σ j) (hOr ch' j) (by omega) (by omega) (by rw [chO_s hpr ch' h0]; exact he) _ _ ⟨hO, hp, ht, hh, hg, hw, (by rw [← mC_or]; exact hc), hj⟩ hS ls hl
  refine lv_iload_n F.1 F.2.1 d_MO_choose_0 rfl (lv_at hl 1 rfl) ?_
  refine lv_istore_n (lv' := [(2, .int (nI i)), (0, .ref (ad 0)), (1, .int (nI i))]) F.1 F.2.1 d_MO_choose_1 rfl hl (by decide) rfl (fun ls hl => ?_)
  exact loop i i ch (Nat.le_refl _) hi rfl _ _ hP hS ls hl
/-- the chains of the images that store s holds -/
def chH (σ : Sg) (s n : Nat) : Nat → Bool := fun x => (List.range n).any fun i => gh σ s i && decide (x ∈ cn (gp σ) i)
theorem chH_t (σ : Sg) (s : Nat) {k : Nat} (h : gh σ s k = true) : chO (gp σ) (chH σ s k) k = chH σ s (k + 1) := funext fun x => by
  unfold chO chH
  rw [List.range_succ, List.any_append]
  simp [h]
theorem chH_f (σ : Sg) (s : Nat) {k : Nat} (h : gh σ s k = false) : chH σ s k = chH σ s (k + 1) := funext fun x => by
  unfold chH
  rw [List.range_succ, List.any_append]
  simp [h]
theorem c_MO_chooseHeld (l : Launch) (G : x_G) (ad : Nat → Nat) (σ : Sg) (wk : Nat → Int64) (ch : Nat → Bool) (s0 : Nat) (hs0 : s0 < 2) (hok : gOk σ) : Met l y_MO_chooseHeld (x_ws y_MO_chooseHeld b_MO_chooseHeld 3 none) (x_rm 1 0 0) (x_P G [.ref (ad 0), .int (nI s0)] (MO G ad σ wk ch)) (x_Q (MW G ad σ wk (chH σ s0 (gn σ)) none)) 0 0 (mA ad) := by
  refine x_wV (by decide +kernel) (Nat.le_of_ble_eq_true rfl) (fun p e s m args below meth c F hnm hK hP ls hl Q hret => ?_)
  have hl : lv_has ls 3 [(0, .ref (ad 0)), (1, .int (nI s0))] := hl
  have hS : va_S (mA ad) s.heap s.heap [] := va_S.rf
  have hn40 := hok.2.1
  have hpr := hok.2.2.1
  have loop : ∀ (n k : Nat), k + n = gn σ → ∀ (H : Heap) (locs : List Loc), MO G ad σ wk (chH σ s0 k) H → va_S (mA ad) s.heap H locs → ∀ ls : Array Slot, lv_has ls 3 [(2, .int (nI k)), (0, .ref (ad 0)), (1, .int (nI s0))] → W p l e (x_rm 1 0 0) s m args below meth c H locs 0 0 Q (F0 m 6 ls []) := by
    intro n
    induction n with
    | zero =>
      intro k hn H locs hP hS ls hl
      obtain ⟨hO, hp, ht, hh, hg, hw, hc, hj⟩ := id hP
      refine lv_iload_n F.1 F.2.1 d_MO_chooseHeld_6 rfl (lv_at hl 0 rfl) ?_
      refine lv_aload_n F.1 F.2.1 d_MO_chooseHeld_7 rfl (lv_at hl 1 rfl) ?_
      refine x_get F hK hO rfl i_MO 2 (by decide) k481 rfl rfl d_MO_chooseHeld_8 ?_
      refine lv_icmp_ge (tgt := 39) F.1 F.2.1 d_MO_chooseHeld_11 (by decide) (fun _ => ?_) (fun zq => absurd (pN_le (a := (gn σ)) (b := k) rfl rfl (by omega) (by omega) (by omega)) zq)
      obtain rfl : k = gn σ := by omega
      exact hret _ _ _ _ _ _ d_MO_chooseHeld_39 ⟨rfl, hP, hS.off⟩ hS.2.2 (Nat.le_refl _) (Nat.le_refl _)
    | succ n ih =>
      intro k hn H locs hP hS ls hl
      obtain ⟨hO, hp, ht, hh, hg, hw, hc, hj⟩ := id hP
      refine lv_iload_n F.1 F.2.1 d_MO_chooseHeld_6 rfl (lv_at hl 0 rfl) ?_
      refine lv_aload_n F.1 F.2.1 d_MO_chooseHeld_7 rfl (lv_at hl 1 rfl) ?_
      refine x_get F hK hO rfl i_MO 2 (by decide) k481 rfl rfl d_MO_chooseHeld_8 ?_
      refine lv_icmp_ge (tgt := 39) F.1 F.2.1 d_MO_chooseHeld_11 (by decide) (fun zq => absurd zq (pN_nle (a := (gn σ)) (b := k) rfl rfl (by omega) (by omega) (by omega))) (fun _ => ?_)
      refine lv_aload_n F.1 F.2.1 d_MO_chooseHeld_14 rfl (lv_at hl 1 rfl) ?_
      refine x_get F hK hO rfl i_MO 3 (by decide) k482 rfl rfl d_MO_chooseHeld_15 ?_
      refine lv_bipush (v := 40) F.1 F.2.1 d_MO_chooseHeld_18 (by decide) ?_
      refine lv_iload_n F.1 F.2.1 d_MO_chooseHeld_20 rfl (lv_at hl 2 rfl) ?_
      refine lv_imul F.1 F.2.1 d_MO_chooseHeld_21 ?_
      refine lv_iload_n F.1 F.2.1 d_MO_chooseHeld_22 rfl (lv_at hl 0 rfl) ?_
      refine lv_iadd F.1 F.2.1 d_MO_chooseHeld_23 ?_
      rw [e40]
      refine x_zaldN F hK hh (by decide) (by omega) d_MO_chooseHeld_24 ?_
      rw [mH_at (by omega)]
      refine x_beq (tgt := 33) F d_MO_chooseHeld_25 (by decide) (fun c25 => ?_) (fun c25 => ?_)
      · refine lv_iinc (v := (nI (k + 1))) (lv' := [(2, .int (nI (k + 1))), (0, .ref (ad 0)), (1, .int (nI s0))]) F.1 F.2.1 d_MO_chooseHeld_33 hl (k := 0) rfl (nI_1 k) (by decide) rfl (fun ls hl => ?_)
        refine lv_goto (tgt := 6) F.1 F.2.1 d_MO_chooseHeld_36 (by decide) ?_
        exact ih (k + 1) (by omega) _ _ (by rw [← chH_f σ s0 c25]; exact hP) hS ls hl
      · refine lv_aload_n F.1 F.2.1 d_MO_chooseHeld_28 rfl (lv_at hl 1 rfl) ?_
        refine lv_iload_n F.1 F.2.1 d_MO_chooseHeld_29 rfl (lv_at hl 0 rfl) ?_
        refine x_wr (x_V (n := 1) (As := [.int (nI k)]) F (c_MO_choose l G ad σ wk (chH σ s0 k) k (by omega) hpr) ok_MO_choose k603 ⟨Nat.le_of_ble_eq_true rfl, Nat.le_of_ble_eq_true rfl⟩ rfl rfl hK (x_rcv hK hO rfl) (hP) rfl hl.1 rfl (Nat.le_of_ble_eq_true rfl) d_MO_chooseHeld_30 ⟨Nat.le_of_ble_eq_true rfl, Nat.le_of_ble_eq_true rfl⟩) hS (fun _ h => h) (fun _ _ h => h.2.2) (fun v H7 locs hpost hS => ?_)
        obtain ⟨rfl, hP, ho⟩ := hpost
        refine lv_iinc (v := (nI (k + 1))) (lv' := [(2, .int (nI (k + 1))), (0, .ref (ad 0)), (1, .int (nI s0))]) F.1 F.2.1 d_MO_chooseHeld_33 hl (k := 0) rfl (nI_1 k) (by decide) rfl (fun ls hl => ?_)
        refine lv_goto (tgt := 6) F.1 F.2.1 d_MO_chooseHeld_36 (by decide) ?_
        exact ih (k + 1) (by omega) _ _ (by rw [← chH_t σ s0 c25]; exact hP) hS ls hl
  have hO := hP.1
  refine lv_aload_n F.1 F.2.1 d_MO_chooseHeld_0 rfl (lv_at hl 0 rfl) ?_
  refine x_wr (x_V (n := 0) (As := []) F (c_MO_chooseNone l G ad σ wk ch) ok_MO_chooseNone k599 ⟨Nat.le_of_ble_eq_true rfl, Nat.le_of_ble_eq_true rfl⟩ rfl rfl hK (x_rcv hK hO rfl) (hP) rfl hl.1 rfl (Nat.le_of_ble_eq_true rfl) d_MO_chooseHeld_1 ⟨Nat.le_of_ble_eq_true rfl, Nat.le_of_ble_eq_true rfl⟩) hS (fun _ h => h) (fun _ _ h => h.2.2) (fun v H8 locs hpost hS => ?_)
  obtain ⟨rfl, hP, ho⟩ := hpost
  refine lv_iconst (v := 0) F.1 F.2.1 d_MO_chooseHeld_4 (by decide) ?_
  refine lv_istore_n (lv' := [(2, .int 0), (0, .ref (ad 0)), (1, .int (nI s0))]) F.1 F.2.1 d_MO_chooseHeld_5 rfl hl (by decide) rfl (fun ls hl => ?_)
  exact loop (gn σ) 0 (by omega) _ _ hP hS ls hl
end
section
/-! ===== the model: the steps ===== -/
theorem hd_pa : ∀ p, p < 125 → lg p = true → (nm p = 1 → pa p = 0) ∧ (nm p = 2 → hd p 1 = pa p ∧ pa (pa p) = 0) ∧ (nm p = 3 → hd p 1 = pa (pa p) ∧ hd p 2 = pa p) := by decide +kernel
theorem nm_123 {p : Nat} (hp : p < 125) (hg : lg p = true) : nm p = 1 ∨ nm p = 2 ∨ nm p = 3 := by
  have := lg_nm p hp hg
  have := nm_lt p
  omega
theorem file_dir : mo_file wDIR = false := by decide +kernel
theorem c_MO_underFile (l : Launch) (G : x_G) (ad : Nat → Nat) (σ : Sg) (f : Nat → Int64) (ch : Nat → Bool) (i : Nat) (hi : i < 125) (li : lg i = true) (h0 : f 0 = wDIR) : Met l y_MO_underFile (x_ws y_MO_underFile b_MO_underFile 3 (some .boolean)) (x_rm 1 0 0) (x_P G [.ref (ad 0), .int (nI i)] (MO G ad σ f ch)) (k2_QcV (.int (x_b (mo_file (f (pa i)) || mo_file (f (pa (pa i))))))) 0 0 (fun _ => False) := by
  refine x_mZ (by decide +kernel) (Nat.le_of_ble_eq_true rfl) (fun p e s m args below meth c F hK hP ls hl Q hret => ?_)
  have hl : lv_has ls 3 [(0, .ref (ad 0)), (1, .int (nI i))] := hl
  obtain ⟨hO, hp, ht, hh, hg, hw, hc, hj⟩ := hP
  obtain ⟨q1, q2, q3⟩ := hd_pa i hi li
  have hpi := pa_lt i hi
  have hppi := pa_lt _ hpi
  refine lv_iconst (v := 1) F.1 F.2.1 d_MO_underFile_0 (by decide) ?_
  refine lv_istore_n (lv' := [(2, .int 1), (0, .ref (ad 0)), (1, .int (nI i))]) F.1 F.2.1 d_MO_underFile_1 rfl hl (by decide) rfl (fun ls hl => ?_)
  refine lv_iload_n F.1 F.2.1 d_MO_underFile_2 rfl (lv_at hl 0 rfl) ?_
  refine lv_iload_n F.1 F.2.1 d_MO_underFile_3 rfl (lv_at hl 2 rfl) ?_
  refine x_rd (x_S (n := 1) (As := [.int (nI i)]) F (c_MO_depth l G (nI i)) ok_MO_depth k531 ⟨Nat.le_of_ble_eq_true rfl, Nat.le_of_ble_eq_true rfl⟩ rfl rfl hK (trivial) rfl hl.1 rfl (Nat.le_of_ble_eq_true rfl) d_MO_underFile_4 ⟨Nat.le_of_ble_eq_true rfl, Nat.le_of_ble_eq_true rfl⟩) ?_
  rw [pj_names_n i hi]
  rcases nm_123 hi li with hn | hn | hn
  · rw [hn]
    refine lv_icmp_ge (tgt := 34) F.1 F.2.1 d_MO_underFile_7 (by decide) (fun _ => ?_) (fun zq => absurd (pN_le (a := 1) (b := 1) rfl rfl (by omega) (by omega) (by omega)) zq)
    refine lv_iconst (v := 0) F.1 F.2.1 d_MO_underFile_34 (by decide) ?_
    exact hret _ _ _ d_MO_underFile_35 (by rw [q1 hn, h0, show pa 0 = 0 from rfl, h0, file_dir]; rfl)
  · rw [hn]
    refine lv_icmp_ge (tgt := 34) F.1 F.2.1 d_MO_underFile_7 (by decide) (fun zq => absurd zq (pN_nle (a := 2) (b := 1) rfl rfl (by omega) (by omega) (by omega))) (fun _ => ?_)
    refine lv_aload_n F.1 F.2.1 d_MO_underFile_10 rfl (lv_at hl 1 rfl) ?_
    refine x_get F hK hO rfl i_MO 5 (by decide) k484 rfl rfl d_MO_underFile_11 ?_
    refine lv_iload_n F.1 F.2.1 d_MO_underFile_14 rfl (lv_at hl 2 rfl) ?_
    refine lv_iload_n F.1 F.2.1 d_MO_underFile_15 rfl (lv_at hl 0 rfl) ?_
    refine x_rd (x_S (n := 2) (As := [.int (nI i), .int 1]) F (c_MO_head l G (nI i) 1) ok_MO_head k534 ⟨Nat.le_of_ble_eq_true rfl, Nat.le_of_ble_eq_true rfl⟩ rfl rfl hK (trivial) rfl hl.1 rfl (Nat.le_of_ble_eq_true rfl) d_MO_underFile_16 ⟨Nat.le_of_ble_eq_true rfl, Nat.le_of_ble_eq_true rfl⟩) ?_
    rw [show mo_head (nI i) 1 = nI (pa i) from (mo_head_n i hi 1 (by decide)).trans (by rw [(q2 hn).1])]
    refine x_laldN F hK hw (by decide) (by omega) d_MO_underFile_19 ?_
    refine x_rd (x_S (n := 1) (As := [.long (f (pa i))]) F (c_MO_file l G (f (pa i))) ok_MO_file k537 ⟨Nat.le_of_ble_eq_true rfl, Nat.le_of_ble_eq_true rfl⟩ rfl rfl hK (trivial) rfl hl.1 rfl (Nat.le_of_ble_eq_true rfl) d_MO_underFile_20 ⟨Nat.le_of_ble_eq_true rfl, Nat.le_of_ble_eq_true rfl⟩) ?_
    refine x_beq (tgt := 28) F d_MO_underFile_23 (by decide) (fun c23 => ?_) (fun c23 => ?_)
    · refine lv_iinc (v := (1 + 1)) (lv' := [(2, .int (1 + 1)), (0, .ref (ad 0)), (1, .int (nI i))]) F.1 F.2.1 d_MO_underFile_28 hl (k := 0) rfl rfl (by decide) rfl (fun ls hl => ?_)
      refine lv_goto (tgt := 2) F.1 F.2.1 d_MO_underFile_31 (by decide) ?_
      refine lv_iload_n F.1 F.2.1 d_MO_underFile_2 rfl (lv_at hl 0 rfl) ?_
      refine lv_iload_n F.1 F.2.1 d_MO_underFile_3 rfl (lv_at hl 2 rfl) ?_
      refine x_rd (x_S (n := 1) (As := [.int (nI i)]) F (c_MO_depth l G (nI i)) ok_MO_depth k531 ⟨Nat.le_of_ble_eq_true rfl, Nat.le_of_ble_eq_true rfl⟩ rfl rfl hK (trivial) rfl hl.1 rfl (Nat.le_of_ble_eq_true rfl) d_MO_underFile_4 ⟨Nat.le_of_ble_eq_true rfl, Nat.le_of_ble_eq_true rfl⟩) ?_
      rw [pj_names_n i hi, hn]
      refine lv_icmp_ge (tgt := 34) F.1 F.2.1 d_MO_underFile_7 (by decide) (fun _ => ?_) (fun zq => absurd (pN_le (a := 2) (b := 2) rfl rfl (by omega) (by omega) (by omega)) zq)
      refine lv_iconst (v := 0) F.1 F.2.1 d_MO_underFile_34 (by decide) ?_
      exact hret _ _ _ d_MO_underFile_35 (by rw [c23, (q2 hn).2, h0, file_dir]; rfl)
    · refine lv_iconst (v := 1) F.1 F.2.1 d_MO_underFile_26 (by decide) ?_
      exact hret _ _ _ d_MO_underFile_27 (by rw [c23]; rfl)
  · rw [hn]
    refine lv_icmp_ge (tgt := 34) F.1 F.2.1 d_MO_underFile_7 (by decide) (fun zq => absurd zq (pN_nle (a := 3) (b := 1) rfl rfl (by omega) (by omega) (by omega))) (fun _ => ?_)
    refine lv_aload_n F.1 F.2.1 d_MO_underFile_10 rfl (lv_at hl 1 rfl) ?_
    refine x_get F hK hO rfl i_MO 5 (by decide) k484 rfl rfl d_MO_underFile_11 ?_
    refine lv_iload_n F.1 F.2.1 d_MO_underFile_14 rfl (lv_at hl 2 rfl) ?_
    refine lv_iload_n F.1 F.2.1 d_MO_underFile_15 rfl (lv_at hl 0 rfl) ?_
    refine x_rd (x_S (n := 2) (As := [.int (nI i), .int 1]) F (c_MO_head l G (nI i) 1) ok_MO_head k534 ⟨Nat.le_of_ble_eq_true rfl, Nat.le_of_ble_eq_true rfl⟩ rfl rfl hK (trivial) rfl hl.1 rfl (Nat.le_of_ble_eq_true rfl) d_MO_underFile_16 ⟨Nat.le_of_ble_eq_true rfl, Nat.le_of_ble_eq_true rfl⟩) ?_
    rw [show mo_head (nI i) 1 = nI (pa (pa i)) from (mo_head_n i hi 1 (by decide)).trans (by rw [(q3 hn).1])]
    refine x_laldN F hK hw (by decide) (by omega) d_MO_underFile_19 ?_
    refine x_rd (x_S (n := 1) (As := [.long (f (pa (pa i)))]) F (c_MO_file l G (f (pa (pa i)))) ok_MO_file k537 ⟨Nat.le_of_ble_eq_true rfl, Nat.le_of_ble_eq_true rfl⟩ rfl rfl hK (trivial) rfl hl.1 rfl (Nat.le_of_ble_eq_true rfl) d_MO_underFile_20 ⟨Nat.le_of_ble_eq_true rfl, Nat.le_of_ble_eq_true rfl⟩) ?_
    refine x_beq (tgt := 28) F d_MO_underFile_23 (by decide) (fun c23 => ?_) (fun c23 => ?_)
    · refine lv_iinc (v := (1 + 1)) (lv' := [(2, .int (1 + 1)), (0, .ref (ad 0)), (1, .int (nI i))]) F.1 F.2.1 d_MO_underFile_28 hl (k := 0) rfl rfl (by decide) rfl (fun ls hl => ?_)
      refine lv_goto (tgt := 2) F.1 F.2.1 d_MO_underFile_31 (by decide) ?_
      refine lv_iload_n F.1 F.2.1 d_MO_underFile_2 rfl (lv_at hl 0 rfl) ?_
      refine lv_iload_n F.1 F.2.1 d_MO_underFile_3 rfl (lv_at hl 2 rfl) ?_
      refine x_rd (x_S (n := 1) (As := [.int (nI i)]) F (c_MO_depth l G (nI i)) ok_MO_depth k531 ⟨Nat.le_of_ble_eq_true rfl, Nat.le_of_ble_eq_true rfl⟩ rfl rfl hK (trivial) rfl hl.1 rfl (Nat.le_of_ble_eq_true rfl) d_MO_underFile_4 ⟨Nat.le_of_ble_eq_true rfl, Nat.le_of_ble_eq_true rfl⟩) ?_
      rw [pj_names_n i hi, hn]
      refine lv_icmp_ge (tgt := 34) F.1 F.2.1 d_MO_underFile_7 (by decide) (fun zq => absurd zq (pN_nle (a := 3) (b := 2) rfl rfl (by omega) (by omega) (by omega))) (fun _ => ?_)
      refine lv_aload_n F.1 F.2.1 d_MO_underFile_10 rfl (lv_at hl 1 rfl) ?_
      refine x_get F hK hO rfl i_MO 5 (by decide) k484 rfl rfl d_MO_underFile_11 ?_
      refine lv_iload_n F.1 F.2.1 d_MO_underFile_14 rfl (lv_at hl 2 rfl) ?_
      refine lv_iload_n F.1 F.2.1 d_MO_underFile_15 rfl (lv_at hl 0 rfl) ?_
      refine x_rd (x_S (n := 2) (As := [.int (nI i), .int (1 + 1)]) F (c_MO_head l G (nI i) (1 + 1)) ok_MO_head k534 ⟨Nat.le_of_ble_eq_true rfl, Nat.le_of_ble_eq_true rfl⟩ rfl rfl hK (trivial) rfl hl.1 rfl (Nat.le_of_ble_eq_true rfl) d_MO_underFile_16 ⟨Nat.le_of_ble_eq_true rfl, Nat.le_of_ble_eq_true rfl⟩) ?_
      rw [show mo_head (nI i) (1 + 1) = nI (pa i) from (mo_head_n i hi 2 (by decide)).trans (by rw [(q3 hn).2])]
      refine x_laldN F hK hw (by decide) (by omega) d_MO_underFile_19 ?_
      refine x_rd (x_S (n := 1) (As := [.long (f (pa i))]) F (c_MO_file l G (f (pa i))) ok_MO_file k537 ⟨Nat.le_of_ble_eq_true rfl, Nat.le_of_ble_eq_true rfl⟩ rfl rfl hK (trivial) rfl hl.1 rfl (Nat.le_of_ble_eq_true rfl) d_MO_underFile_20 ⟨Nat.le_of_ble_eq_true rfl, Nat.le_of_ble_eq_true rfl⟩) ?_
      refine x_beq (tgt := 28) F d_MO_underFile_23 (by decide) (fun c24 => ?_) (fun c24 => ?_)
      · refine lv_iinc (v := ((1 + 1) + 1)) (lv' := [(2, .int ((1 + 1) + 1)), (0, .ref (ad 0)), (1, .int (nI i))]) F.1 F.2.1 d_MO_underFile_28 hl (k := 0) rfl rfl (by decide) rfl (fun ls hl => ?_)
        refine lv_goto (tgt := 2) F.1 F.2.1 d_MO_underFile_31 (by decide) ?_
        refine lv_iload_n F.1 F.2.1 d_MO_underFile_2 rfl (lv_at hl 0 rfl) ?_
        refine lv_iload_n F.1 F.2.1 d_MO_underFile_3 rfl (lv_at hl 2 rfl) ?_
        refine x_rd (x_S (n := 1) (As := [.int (nI i)]) F (c_MO_depth l G (nI i)) ok_MO_depth k531 ⟨Nat.le_of_ble_eq_true rfl, Nat.le_of_ble_eq_true rfl⟩ rfl rfl hK (trivial) rfl hl.1 rfl (Nat.le_of_ble_eq_true rfl) d_MO_underFile_4 ⟨Nat.le_of_ble_eq_true rfl, Nat.le_of_ble_eq_true rfl⟩) ?_
        rw [pj_names_n i hi, hn]
        refine lv_icmp_ge (tgt := 34) F.1 F.2.1 d_MO_underFile_7 (by decide) (fun _ => ?_) (fun zq => absurd (pN_le (a := 3) (b := 3) rfl rfl (by omega) (by omega) (by omega)) zq)
        refine lv_iconst (v := 0) F.1 F.2.1 d_MO_underFile_34 (by decide) ?_
        exact hret _ _ _ d_MO_underFile_35 (by rw [c23, c24]; rfl)
      · refine lv_iconst (v := 1) F.1 F.2.1 d_MO_underFile_26 (by decide) ?_
        exact hret _ _ _ d_MO_underFile_27 (by rw [c24]; rfl)
    · refine lv_iconst (v := 1) F.1 F.2.1 d_MO_underFile_26 (by decide) ?_
      exact hret _ _ _ d_MO_underFile_27 (by rw [c23, Bool.or_true]; rfl)
theorem c_MO_raise (l : Launch) (G : x_G) (ad : Nat → Nat) (σ : Sg) (f : Nat → Int64) (ch : Nat → Bool) (i : Nat) (v : Int64) (hi : i < 125) (li : lg i = true) (h0 : f 0 = wDIR) : Met l y_MO_raise (x_ws y_MO_raise b_MO_raise 5 (some .boolean)) (x_rm 1 0 0) (x_P G [.ref (ad 0), .int (nI i), .long v] (MO G ad σ f ch)) (x_Q (MW G ad σ (vp_updL (tAbove f i) i v) ch (some (.int (x_b true))))) 0 0 (mA ad) := by
  refine x_wZ (by decide +kernel) (Nat.le_of_ble_eq_true rfl) (fun p e s m args below meth c F hK hP ls hl Q hret => ?_)
  have hl : lv_has ls 5 [(0, .ref (ad 0)), (1, .int (nI i)), (2, .long v)] := hl
  have hS : va_S (mA ad) s.heap s.heap [] := va_S.rf
  obtain ⟨hO, hp, ht, hh, hg, hw, hc, hj⟩ := hP
  obtain ⟨q1, q2, q3⟩ := hd_pa i hi li
  have hpi := pa_lt i hi
  have hppi := pa_lt _ hpi
  refine lv_iconst (v := 1) F.1 F.2.1 d_MO_raise_0 (by decide) ?_
  refine lv_istore (lv' := [(4, .int 1), (0, .ref (ad 0)), (1, .int (nI i)), (2, .long v)]) F.1 F.2.1 d_MO_raise_1 hl (by decide) rfl (fun ls hl => ?_)
  refine lv_iload F.1 F.2.1 d_MO_raise_3 (lv_at hl 0 rfl) ?_
  refine lv_iload_n F.1 F.2.1 d_MO_raise_5 rfl (lv_at hl 2 rfl) ?_
  refine x_rd (x_S (n := 1) (As := [.int (nI i)]) F (c_MO_depth l G (nI i)) ok_MO_depth k531 ⟨Nat.le_of_ble_eq_true rfl, Nat.le_of_ble_eq_true rfl⟩ rfl rfl hK (trivial) rfl hl.1 rfl (Nat.le_of_ble_eq_true rfl) d_MO_raise_6 ⟨Nat.le_of_ble_eq_true rfl, Nat.le_of_ble_eq_true rfl⟩) ?_
  rw [pj_names_n i hi]
  rcases nm_123 hi li with hn | hn | hn
  · rw [hn]
    refine lv_icmp_ge (tgt := 32) F.1 F.2.1 d_MO_raise_9 (by decide) (fun _ => ?_) (fun zq => absurd (pN_le (a := 1) (b := 1) rfl rfl (by omega) (by omega) (by omega)) zq)
    refine lv_aload_n F.1 F.2.1 d_MO_raise_32 rfl (lv_at hl 1 rfl) ?_
    refine x_get F hK hO rfl i_MO 5 (by decide) k484 rfl rfl d_MO_raise_33 ?_
    refine lv_iload_n F.1 F.2.1 d_MO_raise_36 rfl (lv_at hl 2 rfl) ?_
    refine lv_lload_n F.1 F.2.1 d_MO_raise_37 rfl (lv_at hl 3 rfl) ?_
    refine x_lastN F hK hw (by decide) (by omega) hS ⟨5, by omega, rfl⟩ d_MO_raise_38 (fun H1 locs hw hz1 ho1 hS => ?_)
    have hO := va_at.kept hO (ho1 _ (hj.ne 0 5))
    have hp := va_at.kept hp (ho1 _ (hj.ne 1 5))
    have ht := va_at.kept ht (ho1 _ (hj.ne 2 5))
    have hh := va_at.kept hh (ho1 _ (hj.ne 3 5))
    have hg := va_at.kept hg (ho1 _ (hj.ne 4 5))
    have hc := va_at.kept hc (ho1 _ (hj.ne 6 5))
    refine lv_iconst (v := 1) F.1 F.2.1 d_MO_raise_39 (by decide) ?_
    refine hret _ _ _ true _ _ _ _ d_MO_raise_40 rfl ⟨rfl, ⟨hO, hp, ht, hh, hg, x_al.cg hw (fun j _ => ?_), hc, hj⟩, hS.off⟩ hS.2.2 (Nat.le_refl _) (Nat.le_refl _)
    unfold tAbove vp_updL
    rw [q1 hn, show pa 0 = 0 from rfl]
    by_cases e1 : j = i
    · rw [if_pos e1, if_pos e1]
    · rw [if_neg e1, if_neg e1]
      by_cases e2 : j = 0
      · rw [if_pos e2, e2, h0]
      · rw [if_neg e2, if_neg e2]
  · rw [hn]
    refine lv_icmp_ge (tgt := 32) F.1 F.2.1 d_MO_raise_9 (by decide) (fun zq => absurd zq (pN_nle (a := 2) (b := 1) rfl rfl (by omega) (by omega) (by omega))) (fun _ => ?_)
    refine lv_aload_n F.1 F.2.1 d_MO_raise_12 rfl (lv_at hl 1 rfl) ?_
    refine x_get F hK hO rfl i_MO 5 (by decide) k484 rfl rfl d_MO_raise_13 ?_
    refine lv_iload_n F.1 F.2.1 d_MO_raise_16 rfl (lv_at hl 2 rfl) ?_
    refine lv_iload F.1 F.2.1 d_MO_raise_17 (lv_at hl 0 rfl) ?_
    refine x_rd (x_S (n := 2) (As := [.int (nI i), .int 1]) F (c_MO_head l G (nI i) 1) ok_MO_head k534 ⟨Nat.le_of_ble_eq_true rfl, Nat.le_of_ble_eq_true rfl⟩ rfl rfl hK (trivial) rfl hl.1 rfl (Nat.le_of_ble_eq_true rfl) d_MO_raise_19 ⟨Nat.le_of_ble_eq_true rfl, Nat.le_of_ble_eq_true rfl⟩) ?_
    rw [show mo_head (nI i) 1 = nI (pa i) from (mo_head_n i hi 1 (by decide)).trans (by rw [(q2 hn).1])]
    refine x_cst F k477 d_MO_raise_22 ?_
    refine x_lastN F hK hw (by decide) (by omega) hS ⟨5, by omega, rfl⟩ d_MO_raise_25 (fun H2 locs hw hz2 ho2 hS => ?_)
    have hO := va_at.kept hO (ho2 _ (hj.ne 0 5))
    have hp := va_at.kept hp (ho2 _ (hj.ne 1 5))
    have ht := va_at.kept ht (ho2 _ (hj.ne 2 5))
    have hh := va_at.kept hh (ho2 _ (hj.ne 3 5))
    have hg := va_at.kept hg (ho2 _ (hj.ne 4 5))
    have hc := va_at.kept hc (ho2 _ (hj.ne 6 5))
    refine lv_iinc (v := (1 + 1)) (lv' := [(4, .int (1 + 1)), (0, .ref (ad 0)), (1, .int (nI i)), (2, .long v)]) F.1 F.2.1 d_MO_raise_26 hl (k := 0) rfl rfl (by decide) rfl (fun ls hl => ?_)
    refine lv_goto (tgt := 3) F.1 F.2.1 d_MO_raise_29 (by decide) ?_
    refine lv_iload F.1 F.2.1 d_MO_raise_3 (lv_at hl 0 rfl) ?_
    refine lv_iload_n F.1 F.2.1 d_MO_raise_5 rfl (lv_at hl 2 rfl) ?_
    refine x_rd (x_S (n := 1) (As := [.int (nI i)]) F (c_MO_depth l G (nI i)) ok_MO_depth k531 ⟨Nat.le_of_ble_eq_true rfl, Nat.le_of_ble_eq_true rfl⟩ rfl rfl hK (trivial) rfl hl.1 rfl (Nat.le_of_ble_eq_true rfl) d_MO_raise_6 ⟨Nat.le_of_ble_eq_true rfl, Nat.le_of_ble_eq_true rfl⟩) ?_
    rw [pj_names_n i hi, hn]
    refine lv_icmp_ge (tgt := 32) F.1 F.2.1 d_MO_raise_9 (by decide) (fun _ => ?_) (fun zq => absurd (pN_le (a := 2) (b := 2) rfl rfl (by omega) (by omega) (by omega)) zq)
    refine lv_aload_n F.1 F.2.1 d_MO_raise_32 rfl (lv_at hl 1 rfl) ?_
    refine x_get F hK hO rfl i_MO 5 (by decide) k484 rfl rfl d_MO_raise_33 ?_
    refine lv_iload_n F.1 F.2.1 d_MO_raise_36 rfl (lv_at hl 2 rfl) ?_
    refine lv_lload_n F.1 F.2.1 d_MO_raise_37 rfl (lv_at hl 3 rfl) ?_
    refine x_lastN F hK hw (by decide) (by omega) hS ⟨5, by omega, rfl⟩ d_MO_raise_38 (fun H3 locs hw hz3 ho3 hS => ?_)
    have hO := va_at.kept hO (ho3 _ (hj.ne 0 5))
    have hp := va_at.kept hp (ho3 _ (hj.ne 1 5))
    have ht := va_at.kept ht (ho3 _ (hj.ne 2 5))
    have hh := va_at.kept hh (ho3 _ (hj.ne 3 5))
    have hg := va_at.kept hg (ho3 _ (hj.ne 4 5))
    have hc := va_at.kept hc (ho3 _ (hj.ne 6 5))
    refine lv_iconst (v := 1) F.1 F.2.1 d_MO_raise_39 (by decide) ?_
    refine hret _ _ _ true _ _ _ _ d_MO_raise_40 rfl ⟨rfl, ⟨hO, hp, ht, hh, hg, x_al.cg hw (fun j _ => ?_), hc, hj⟩, hS.off⟩ hS.2.2 (Nat.le_refl _) (Nat.le_refl _)
    unfold tAbove vp_updL
    rw [(q2 hn).2]
    by_cases e1 : j = i
    · rw [if_pos e1, if_pos e1]
    · rw [if_neg e1, if_neg e1]
      by_cases e2 : j = 0
      · rw [if_pos e2]
        by_cases e3 : j = pa i
        · rw [if_pos e3]
        · rw [if_neg e3, e2, h0]
      · rw [if_neg e2]
  · rw [hn]
    refine lv_icmp_ge (tgt := 32) F.1 F.2.1 d_MO_raise_9 (by decide) (fun zq => absurd zq (pN_nle (a := 3) (b := 1) rfl rfl (by omega) (by omega) (by omega))) (fun _ => ?_)
    refine lv_aload_n F.1 F.2.1 d_MO_raise_12 rfl (lv_at hl 1 rfl) ?_
    refine x_get F hK hO rfl i_MO 5 (by decide) k484 rfl rfl d_MO_raise_13 ?_
    refine lv_iload_n F.1 F.2.1 d_MO_raise_16 rfl (lv_at hl 2 rfl) ?_
    refine lv_iload F.1 F.2.1 d_MO_raise_17 (lv_at hl 0 rfl) ?_
    refine x_rd (x_S (n := 2) (As := [.int (nI i), .int 1]) F (c_MO_head l G (nI i) 1) ok_MO_head k534 ⟨Nat.le_of_ble_eq_true rfl, Nat.le_of_ble_eq_true rfl⟩ rfl rfl hK (trivial) rfl hl.1 rfl (Nat.le_of_ble_eq_true rfl) d_MO_raise_19 ⟨Nat.le_of_ble_eq_true rfl, Nat.le_of_ble_eq_true rfl⟩) ?_
    rw [show mo_head (nI i) 1 = nI (pa (pa i)) from (mo_head_n i hi 1 (by decide)).trans (by rw [(q3 hn).1])]
    refine x_cst F k477 d_MO_raise_22 ?_
    refine x_lastN F hK hw (by decide) (by omega) hS ⟨5, by omega, rfl⟩ d_MO_raise_25 (fun H4 locs hw hz4 ho4 hS => ?_)
    have hO := va_at.kept hO (ho4 _ (hj.ne 0 5))
    have hp := va_at.kept hp (ho4 _ (hj.ne 1 5))
    have ht := va_at.kept ht (ho4 _ (hj.ne 2 5))
    have hh := va_at.kept hh (ho4 _ (hj.ne 3 5))
    have hg := va_at.kept hg (ho4 _ (hj.ne 4 5))
    have hc := va_at.kept hc (ho4 _ (hj.ne 6 5))
    refine lv_iinc (v := (1 + 1)) (lv' := [(4, .int (1 + 1)), (0, .ref (ad 0)), (1, .int (nI i)), (2, .long v)]) F.1 F.2.1 d_MO_raise_26 hl (k := 0) rfl rfl (by decide) rfl (fun ls hl => ?_)
    refine lv_goto (tgt := 3) F.1 F.2.1 d_MO_raise_29 (by decide) ?_
    refine lv_iload F.1 F.2.1 d_MO_raise_3 (lv_at hl 0 rfl) ?_
    refine lv_iload_n F.1 F.2.1 d_MO_raise_5 rfl (lv_at hl 2 rfl) ?_
    refine x_rd (x_S (n := 1) (As := [.int (nI i)]) F (c_MO_depth l G (nI i)) ok_MO_depth k531 ⟨Nat.le_of_ble_eq_true rfl, Nat.le_of_ble_eq_true rfl⟩ rfl rfl hK (trivial) rfl hl.1 rfl (Nat.le_of_ble_eq_true rfl) d_MO_raise_6 ⟨Nat.le_of_ble_eq_true rfl, Nat.le_of_ble_eq_true rfl⟩) ?_
    rw [pj_names_n i hi, hn]
    refine lv_icmp_ge (tgt := 32) F.1 F.2.1 d_MO_raise_9 (by decide) (fun zq => absurd zq (pN_nle (a := 3) (b := 2) rfl rfl (by omega) (by omega) (by omega))) (fun _ => ?_)
    refine lv_aload_n F.1 F.2.1 d_MO_raise_12 rfl (lv_at hl 1 rfl) ?_
    refine x_get F hK hO rfl i_MO 5 (by decide) k484 rfl rfl d_MO_raise_13 ?_
    refine lv_iload_n F.1 F.2.1 d_MO_raise_16 rfl (lv_at hl 2 rfl) ?_
    refine lv_iload F.1 F.2.1 d_MO_raise_17 (lv_at hl 0 rfl) ?_
    refine x_rd (x_S (n := 2) (As := [.int (nI i), .int (1 + 1)]) F (c_MO_head l G (nI i) (1 + 1)) ok_MO_head k534 ⟨Nat.le_of_ble_eq_true rfl, Nat.le_of_ble_eq_true rfl⟩ rfl rfl hK (trivial) rfl hl.1 rfl (Nat.le_of_ble_eq_true rfl) d_MO_raise_19 ⟨Nat.le_of_ble_eq_true rfl, Nat.le_of_ble_eq_true rfl⟩) ?_
    rw [show mo_head (nI i) (1 + 1) = nI (pa i) from (mo_head_n i hi 2 (by decide)).trans (by rw [(q3 hn).2])]
    refine x_cst F k477 d_MO_raise_22 ?_
    refine x_lastN F hK hw (by decide) (by omega) hS ⟨5, by omega, rfl⟩ d_MO_raise_25 (fun H5 locs hw hz5 ho5 hS => ?_)
    have hO := va_at.kept hO (ho5 _ (hj.ne 0 5))
    have hp := va_at.kept hp (ho5 _ (hj.ne 1 5))
    have ht := va_at.kept ht (ho5 _ (hj.ne 2 5))
    have hh := va_at.kept hh (ho5 _ (hj.ne 3 5))
    have hg := va_at.kept hg (ho5 _ (hj.ne 4 5))
    have hc := va_at.kept hc (ho5 _ (hj.ne 6 5))
    refine lv_iinc (v := ((1 + 1) + 1)) (lv' := [(4, .int ((1 + 1) + 1)), (0, .ref (ad 0)), (1, .int (nI i)), (2, .long v)]) F.1 F.2.1 d_MO_raise_26 hl (k := 0) rfl rfl (by decide) rfl (fun ls hl => ?_)
    refine lv_goto (tgt := 3) F.1 F.2.1 d_MO_raise_29 (by decide) ?_
    refine lv_iload F.1 F.2.1 d_MO_raise_3 (lv_at hl 0 rfl) ?_
    refine lv_iload_n F.1 F.2.1 d_MO_raise_5 rfl (lv_at hl 2 rfl) ?_
    refine x_rd (x_S (n := 1) (As := [.int (nI i)]) F (c_MO_depth l G (nI i)) ok_MO_depth k531 ⟨Nat.le_of_ble_eq_true rfl, Nat.le_of_ble_eq_true rfl⟩ rfl rfl hK (trivial) rfl hl.1 rfl (Nat.le_of_ble_eq_true rfl) d_MO_raise_6 ⟨Nat.le_of_ble_eq_true rfl, Nat.le_of_ble_eq_true rfl⟩) ?_
    rw [pj_names_n i hi, hn]
    refine lv_icmp_ge (tgt := 32) F.1 F.2.1 d_MO_raise_9 (by decide) (fun _ => ?_) (fun zq => absurd (pN_le (a := 3) (b := 3) rfl rfl (by omega) (by omega) (by omega)) zq)
    refine lv_aload_n F.1 F.2.1 d_MO_raise_32 rfl (lv_at hl 1 rfl) ?_
    refine x_get F hK hO rfl i_MO 5 (by decide) k484 rfl rfl d_MO_raise_33 ?_
    refine lv_iload_n F.1 F.2.1 d_MO_raise_36 rfl (lv_at hl 2 rfl) ?_
    refine lv_lload_n F.1 F.2.1 d_MO_raise_37 rfl (lv_at hl 3 rfl) ?_
    refine x_lastN F hK hw (by decide) (by omega) hS ⟨5, by omega, rfl⟩ d_MO_raise_38 (fun H6 locs hw hz6 ho6 hS => ?_)
    have hO := va_at.kept hO (ho6 _ (hj.ne 0 5))
    have hp := va_at.kept hp (ho6 _ (hj.ne 1 5))
    have ht := va_at.kept ht (ho6 _ (hj.ne 2 5))
    have hh := va_at.kept hh (ho6 _ (hj.ne 3 5))
    have hg := va_at.kept hg (ho6 _ (hj.ne 4 5))
    have hc := va_at.kept hc (ho6 _ (hj.ne 6 5))
    refine lv_iconst (v := 1) F.1 F.2.1 d_MO_raise_39 (by decide) ?_
    refine hret _ _ _ true _ _ _ _ d_MO_raise_40 rfl ⟨rfl, ⟨hO, hp, ht, hh, hg, x_al.cg hw (fun j _ => ?_), hc, hj⟩, hS.off⟩ hS.2.2 (Nat.le_refl _) (Nat.le_refl _)
    unfold tAbove vp_updL
    by_cases e1 : j = i
    · rw [if_pos e1, if_pos e1]
    · rw [if_neg e1, if_neg e1]
      by_cases e2 : j = pa i
      · rw [if_pos e2, if_pos e2]
        split <;> rfl
      · rw [if_neg e2, if_neg e2]
theorem c_MO_wipe (l : Launch) (G : x_G) (ad : Nat → Nat) (σ : Sg) (f : Nat → Int64) (ch : Nat → Bool) (i : Nat) (hi : i < 125) (li : lg i = true) (hf : ∀ q, 0 < q → q < 125 → f q ≠ wABS → lg q = true) : Met l y_MO_wipe (x_ws y_MO_wipe b_MO_wipe 3 (some .boolean)) (x_rm 2 0 0) (x_P G [.ref (ad 0), .int (nI i)] (MO G ad σ f ch)) (x_Q (MW G ad σ (tWipe f i (en i)) ch (some (.int (x_b true))))) 0 0 (mA ad) := by
  refine x_wZ (by decide +kernel) (Nat.le_of_ble_eq_true rfl) (fun p e s m args below meth c F hK hP ls hl Q hret => ?_)
  have hl : lv_has ls 3 [(0, .ref (ad 0)), (1, .int (nI i))] := hl
  have hS : va_S (mA ad) s.heap s.heap [] := va_S.rf
  obtain ⟨he1, he2⟩ := en_le i hi li
  have h25 := lg_25 li
  have loop : ∀ (n k : Nat), k + n = 125 → 1 ≤ k → ∀ (g : Nat → Int64) (H : Heap) (locs : List Loc), (∀ q, q < 125 → g q = if q < k ∧ i ≤ q ∧ q < en i then wABS else f q) → MO G ad σ g ch H → va_S (mA ad) s.heap H locs → ∀ ls : Array Slot, lv_has ls 3 [(2, .int (nI k)), (0, .ref (ad 0)), (1, .int (nI i))] → W p l e (x_rm 2 0 0) s m args below meth c H locs 0 0 Q (F0 m 2 ls []) := by
    intro n
    induction n with
    | zero =>
      intro k hn hk1 g H locs hgq hP hS ls hl
      obtain ⟨hO, hp, ht, hh, hg, hw, hc, hj⟩ := hP
      refine lv_iload_n F.1 F.2.1 d_MO_wipe_2 rfl (lv_at hl 0 rfl) ?_
      refine lv_bipush (v := 125) F.1 F.2.1 d_MO_wipe_3 (by decide) ?_
      refine lv_icmp_ge (tgt := 36) F.1 F.2.1 d_MO_wipe_5 (by decide) (fun _ => ?_) (fun zq => absurd (pN_le (a := 125) (b := k) rfl rfl (by omega) (by omega) (by omega)) zq)
      refine lv_iconst (v := 1) F.1 F.2.1 d_MO_wipe_36 (by decide) ?_
      refine hret _ _ _ true _ _ _ _ d_MO_wipe_37 rfl ⟨rfl, ⟨hO, hp, ht, hh, hg, x_al.cg hw (fun j hj => ?_), hc, hj⟩, hS.off⟩ hS.2.2 (Nat.le_refl _) (Nat.le_refl _)
      rw [hgq j hj]
      unfold tWipe
      by_cases e : i ≤ j ∧ j < en i
      · rw [if_pos e, if_pos ⟨by omega, e⟩]
      · rw [if_neg e, if_neg (fun z => e z.2)]
    | succ n ih =>
      intro k hn hk1 g H locs hgq hP hS ls hl
      obtain ⟨hO, hp, ht, hh, hg, hw, hc, hj⟩ := id hP
      have k21 : i ≤ k → k < en i → ∀ ls : Array Slot, lv_has ls 3 [(2, .int (nI k)), (0, .ref (ad 0)), (1, .int (nI i))] → W p l e (x_rm 2 0 0) s m args below meth c H locs 0 0 Q (F0 m 21 ls []) := by
        intro hk2 hk3 ls hl
        refine lv_aload_n F.1 F.2.1 d_MO_wipe_21 rfl (lv_at hl 1 rfl) ?_
        refine x_get F hK hO rfl i_MO 5 (by decide) k484 rfl rfl d_MO_wipe_22 ?_
        refine lv_iload_n F.1 F.2.1 d_MO_wipe_25 rfl (lv_at hl 0 rfl) ?_
        refine x_cst F k478 d_MO_wipe_26 ?_
        refine x_lastN F hK hw (by decide) (by omega) hS ⟨5, by omega, rfl⟩ d_MO_wipe_29 (fun H7 locs hw hz7 ho7 hS => ?_)
        have hO := va_at.kept hO (ho7 _ (hj.ne 0 5))
        have hp := va_at.kept hp (ho7 _ (hj.ne 1 5))
        have ht := va_at.kept ht (ho7 _ (hj.ne 2 5))
        have hh := va_at.kept hh (ho7 _ (hj.ne 3 5))
        have hg := va_at.kept hg (ho7 _ (hj.ne 4 5))
        have hc := va_at.kept hc (ho7 _ (hj.ne 6 5))
        refine lv_iinc (v := (nI (k + 1))) (lv' := [(2, .int (nI (k + 1))), (0, .ref (ad 0)), (1, .int (nI i))]) F.1 F.2.1 d_MO_wipe_30 hl (k := 0) rfl (nI_1 k) (by decide) rfl (fun ls hl => ?_)
        refine lv_goto (tgt := 2) F.1 F.2.1 d_MO_wipe_33 (by decide) ?_
        refine ih (k + 1) (by omega) (by omega) _ _ _ (fun q hq => ?_) ⟨hO, hp, ht, hh, hg, hw, hc, hj⟩ hS ls hl
        unfold vp_updL
        by_cases e : q = k
        · rw [if_pos e, if_pos (by omega)]
        · rw [if_neg e, hgq q hq]
          by_cases e2 : q < k ∧ i ≤ q ∧ q < en i
          · rw [if_pos e2, if_pos (by omega)]
          · rw [if_neg e2, if_neg (by omega)]
      refine lv_iload_n F.1 F.2.1 d_MO_wipe_2 rfl (lv_at hl 0 rfl) ?_
      refine lv_bipush (v := 125) F.1 F.2.1 d_MO_wipe_3 (by decide) ?_
      refine lv_icmp_ge (tgt := 36) F.1 F.2.1 d_MO_wipe_5 (by decide) (fun zq => absurd zq (pN_nle (a := 125) (b := k) rfl rfl (by omega) (by omega) (by omega))) (fun _ => ?_)
      refine lv_iload_n F.1 F.2.1 d_MO_wipe_8 rfl (lv_at hl 0 rfl) ?_
      refine lv_iload_n F.1 F.2.1 d_MO_wipe_9 rfl (lv_at hl 2 rfl) ?_
      refine lv_icmp_eq (tgt := 21) F.1 F.2.1 d_MO_wipe_10 (by decide) (fun c10 => ?_) (fun c10 => ?_)
      · have c10 := (pN_eqI (a := k) (b := i) rfl rfl (by omega) (by omega)).mp c10
        exact k21 (by omega) (by omega) ls hl
      · have c10 := mt (pN_eqI (a := k) (b := i) rfl rfl (by omega) (by omega)).mpr c10
        refine lv_iload_n F.1 F.2.1 d_MO_wipe_13 rfl (lv_at hl 0 rfl) ?_
        refine lv_iload_n F.1 F.2.1 d_MO_wipe_14 rfl (lv_at hl 2 rfl) ?_
        refine x_rd (x_S (n := 2) (As := [.int (nI k), .int (nI i)]) F (c_MO_below l G (nI k) (nI i)) ok_MO_below k548 ⟨Nat.le_of_ble_eq_true rfl, Nat.le_of_ble_eq_true rfl⟩ rfl rfl hK (trivial) rfl hl.1 rfl (Nat.le_of_ble_eq_true rfl) d_MO_wipe_15 ⟨Nat.le_of_ble_eq_true rfl, Nat.le_of_ble_eq_true rfl⟩) ?_
        rw [mo_below_n (show k < 125 by omega) hi]
        refine x_beq (tgt := 30) F d_MO_wipe_18 (by decide) (fun c18 => ?_) (fun c18 => ?_)
        · refine lv_iinc (v := (nI (k + 1))) (lv' := [(2, .int (nI (k + 1))), (0, .ref (ad 0)), (1, .int (nI i))]) F.1 F.2.1 d_MO_wipe_30 hl (k := 0) rfl (nI_1 k) (by decide) rfl (fun ls hl => ?_)
          refine lv_goto (tgt := 2) F.1 F.2.1 d_MO_wipe_33 (by decide) ?_
          refine ih (k + 1) (by omega) (by omega) g _ _ (fun q hq => ?_) hP hS ls hl
          rw [hgq q hq]
          by_cases e : q = k
          · subst e
            rw [if_neg (by omega)]
            by_cases e2 : i ≤ q ∧ q < en i
            · rw [if_pos ⟨by omega, e2⟩]
              cases hl2 : lg q with
              | true => rw [(bl_iff i hi li q hq).mpr ⟨hl2, by omega, e2.2⟩] at c18; cases c18
              | false =>
                by_cases e3 : f q = wABS
                · exact e3
                · rw [hf q (by omega) hq e3] at hl2; cases hl2
            · rw [if_neg (fun z => e2 z.2)]
          · by_cases e2 : q < k ∧ i ≤ q ∧ q < en i
            · rw [if_pos e2, if_pos (by omega)]
            · rw [if_neg e2, if_neg (by omega)]
        · have hb := (bl_iff i hi li k (by omega)).mp c18
          exact k21 (by omega) hb.2.2 ls hl
  refine lv_iconst (v := 1) F.1 F.2.1 d_MO_wipe_0 (by decide) ?_
  refine lv_istore_n (lv' := [(2, .int 1), (0, .ref (ad 0)), (1, .int (nI i))]) F.1 F.2.1 d_MO_wipe_1 rfl hl (by decide) rfl (fun ls hl => ?_)
  exact loop 124 1 rfl (Nat.le_refl _) f _ _ (fun q hq => by rw [if_neg (by omega)]) hP hS ls hl
/-! carried -/
def nme (q k : Nat) : Nat := if k = 0 then q / 25 else if k = 1 then q / 5 % 5 else q % 5
def car (q : Nat) : Nat → Nat → Nat → Nat → Nat
  | 0, _, _, at_ => at_
  | n + 1, k, d, at_ => if d = 3 then 0 else car q n (k + 1) (d + 1) (at_ + nme q k * (if d = 1 then 5 else 1))
theorem mo_name_n : ∀ q, q < 125 → ∀ k, k < 3 → mo_name (nI q) (nI k) = nI (nme q k) := by decide +kernel
theorem nme_lt : ∀ q, q < 125 → ∀ k, k < 3 → nme q k < 5 := by decide +kernel
def car_t : Bool := (List.range 125).all fun a => !lg a || (List.range 25).all fun k => !(decide (a + k < en a) && lg (a + k)) || (List.range 125).all fun b => !lg b || decide (car (a + k) (nm (a + k) - nm a) (nm a) (nm b) b = if nm (a + k) + nm b ≤ 3 + nm a then wp (a + k) a b else 0)
theorem car_t_ok : car_t = true := by decide +kernel
theorem car_eq {a b q : Nat} (ha : a < 125) (hb : b < 125) (la : lg a = true) (lb : lg b = true) (h1 : a ≤ q) (h2 : q < en a) (lq : lg q = true) : car q (nm q - nm a) (nm a) (nm b) b = if nm q + nm b ≤ 3 + nm a then wp q a b else 0 := by
  obtain ⟨k, rfl⟩ : ∃ k, q = a + k := ⟨q - a, by omega⟩
  have he : en a ≤ a + 25 := by unfold en; split <;> (try split) <;> omega
  have h := car_t_ok
  unfold car_t at h
  have h := List.all_eq_true.mp h a (List.mem_range.mpr ha)
  rw [la, Bool.not_true, Bool.false_or] at h
  have h := List.all_eq_true.mp h k (List.mem_range.mpr (by omega))
  rw [decide_eq_true h2, lq, Bool.and_true, Bool.not_true, Bool.false_or] at h
  have h := List.all_eq_true.mp h b (List.mem_range.mpr hb)
  rw [lb, Bool.not_true, Bool.false_or] at h
  exact of_decide_eq_true h
theorem c_MO_carried (l : Launch) (G : x_G) (q a b : Nat) (hq : q < 125) (ha : a < 125) (hb : b < 125) (la : lg a = true) (lb : lg b = true) (lq : lg q = true) (h1 : a ≤ q) (h2 : q < en a) : Met l y_MO_carried (x_ws y_MO_carried b_MO_carried 6 (some .int)) (x_rm 1 0 0) (x_P G [.int (nI q), .int (nI a), .int (nI b)] (fun _ => True)) (k2_QcV (.int (nI (if nm q + nm b ≤ 3 + nm a then wp q a b else 0)))) 0 0 (fun _ => False) := by
  refine x_mI (by decide +kernel) (Nat.le_of_ble_eq_true rfl) (fun p e s m args below meth c F hK hP ls hl Q hret => ?_)
  have hl : lv_has ls 6 [(0, .int (nI q)), (1, .int (nI a)), (2, .int (nI b))] := hl
  have hu := nm_up a ha la q hq (by rw [decide_eq_true h1, decide_eq_true h2, lq]; rfl)
  have n1 := nm_lt a
  have n2 := nm_lt b
  have n3 := nm_lt q
  have loop : ∀ (n k d z : Nat), k + n = nm q → d ≤ 3 → z + 25 * n < 1000 → car q n k d z = car q (nm q - nm a) (nm a) (nm b) b → ∀ ls : Array Slot, lv_has ls 6 [(5, .int (nI k)), (3, .int (nI d)), (4, .int (nI z)), (0, .int (nI q)), (1, .int (nI a)), (2, .int (nI b))] → W p l e (x_rm 1 0 0) s m args below meth c s.heap [] 0 0 Q (F0 m 14 ls []) := by
    intro n
    induction n with
    | zero =>
      intro k d z hn hd hz hcar ls hl
      refine lv_iload F.1 F.2.1 d_MO_carried_14 (lv_at hl 0 rfl) ?_
      refine lv_iload_n F.1 F.2.1 d_MO_carried_16 rfl (lv_at hl 3 rfl) ?_
      refine x_rd (x_S (n := 1) (As := [.int (nI q)]) F (c_MO_depth l G (nI q)) ok_MO_depth k531 ⟨Nat.le_of_ble_eq_true rfl, Nat.le_of_ble_eq_true rfl⟩ rfl rfl hK (trivial) rfl hl.1 rfl (Nat.le_of_ble_eq_true rfl) d_MO_carried_17 ⟨Nat.le_of_ble_eq_true rfl, Nat.le_of_ble_eq_true rfl⟩) ?_
      rw [pj_names_n q hq]
      refine lv_icmp_ge (tgt := 61) F.1 F.2.1 d_MO_carried_20 (by decide) (fun _ => ?_) (fun zq => absurd (pN_le (a := (nm q)) (b := k) rfl rfl (by omega) (by omega) (by omega)) zq)
      refine lv_iload F.1 F.2.1 d_MO_carried_61 (lv_at hl 2 rfl) ?_
      exact hret _ _ _ d_MO_carried_63 (by rw [← car_eq ha hb la lb h1 h2 lq, ← hcar]; rfl)
    | succ n ih =>
      intro k d z hn hd hz hcar ls hl
      have hk3 : k < 3 := by omega
      have hnk := nme_lt q hq k hk3
      refine lv_iload F.1 F.2.1 d_MO_carried_14 (lv_at hl 0 rfl) ?_
      refine lv_iload_n F.1 F.2.1 d_MO_carried_16 rfl (lv_at hl 3 rfl) ?_
      refine x_rd (x_S (n := 1) (As := [.int (nI q)]) F (c_MO_depth l G (nI q)) ok_MO_depth k531 ⟨Nat.le_of_ble_eq_true rfl, Nat.le_of_ble_eq_true rfl⟩ rfl rfl hK (trivial) rfl hl.1 rfl (Nat.le_of_ble_eq_true rfl) d_MO_carried_17 ⟨Nat.le_of_ble_eq_true rfl, Nat.le_of_ble_eq_true rfl⟩) ?_
      rw [pj_names_n q hq]
      refine lv_icmp_ge (tgt := 61) F.1 F.2.1 d_MO_carried_20 (by decide) (fun zq => absurd zq (pN_nle (a := (nm q)) (b := k) rfl rfl (by omega) (by omega) (by omega))) (fun _ => ?_)
      refine lv_iload_n F.1 F.2.1 d_MO_carried_23 rfl (lv_at hl 1 rfl) ?_
      refine lv_iconst (v := 3) F.1 F.2.1 d_MO_carried_24 (by decide) ?_
      refine lv_icmp_ne (tgt := 30) F.1 F.2.1 d_MO_carried_25 (by decide) (fun c25 => ?_) (fun c25 => ?_)
      · have c25 := mt (pN_eqI (a := d) (b := 3) rfl rfl (by omega) (by omega)).mpr c25
        have hcs : car q (n + 1) k d z = car q n (k + 1) (d + 1) (z + nme q k * (if d = 1 then 5 else 1)) := if_neg c25
        refine lv_iload F.1 F.2.1 d_MO_carried_30 (lv_at hl 2 rfl) ?_
        refine lv_iload_n F.1 F.2.1 d_MO_carried_32 rfl (lv_at hl 3 rfl) ?_
        refine lv_iload F.1 F.2.1 d_MO_carried_33 (lv_at hl 0 rfl) ?_
        refine x_rd (x_S (n := 2) (As := [.int (nI q), .int (nI k)]) F (c_MO_name l G (nI q) (nI k)) ok_MO_name k561 ⟨Nat.le_of_ble_eq_true rfl, Nat.le_of_ble_eq_true rfl⟩ rfl rfl hK (trivial) rfl hl.1 rfl (Nat.le_of_ble_eq_true rfl) d_MO_carried_35 ⟨Nat.le_of_ble_eq_true rfl, Nat.le_of_ble_eq_true rfl⟩) ?_
        rw [mo_name_n q hq k hk3]
        refine lv_iload_n F.1 F.2.1 d_MO_carried_38 rfl (lv_at hl 1 rfl) ?_
        refine lv_iconst (v := 1) F.1 F.2.1 d_MO_carried_39 (by decide) ?_
        refine lv_icmp_ne (tgt := 47) F.1 F.2.1 d_MO_carried_40 (by decide) (fun c40 => ?_) (fun c40 => ?_)
        · have c40 := mt (pN_eqI (a := d) (b := 1) rfl rfl (by omega) (by omega)).mpr c40
          refine lv_iconst (v := 1) F.1 F.2.1 d_MO_carried_47 (by decide) ?_
          refine lv_imul F.1 F.2.1 d_MO_carried_48 ?_
          refine lv_iadd F.1 F.2.1 d_MO_carried_49 ?_
          rw [show nI z + nI (nme q k) * 1 = nI (z + nme q k * 1) from (by rw [show (1 : Int32) = nI 1 from rfl, pk_mul, nI_add])]
          refine lv_istore (lv' := [(4, .int (nI (z + nme q k * 1))), (5, .int (nI k)), (3, .int (nI d)), (0, .int (nI q)), (1, .int (nI a)), (2, .int (nI b))]) F.1 F.2.1 d_MO_carried_50 hl (by decide) rfl (fun ls hl => ?_)
          refine lv_iinc (v := (nI (d + 1))) (lv' := [(3, .int (nI (d + 1))), (4, .int (nI (z + nme q k * 1))), (5, .int (nI k)), (0, .int (nI q)), (1, .int (nI a)), (2, .int (nI b))]) F.1 F.2.1 d_MO_carried_52 hl (k := 2) rfl (nI_1 d) (by decide) rfl (fun ls hl => ?_)
          refine lv_iinc (v := (nI (k + 1))) (lv' := [(5, .int (nI (k + 1))), (3, .int (nI (d + 1))), (4, .int (nI (z + nme q k * 1))), (0, .int (nI q)), (1, .int (nI a)), (2, .int (nI b))]) F.1 F.2.1 d_MO_carried_55 hl (k := 2) rfl (nI_1 k) (by decide) rfl (fun ls hl => ?_)
          refine lv_goto (tgt := 14) F.1 F.2.1 d_MO_carried_58 (by decide) ?_
          exact ih (k + 1) (d + 1) (z + nme q k * 1) (by omega) (by omega) (by omega) (by rw [← hcar, hcs, if_neg c40]) ls (lv_sub hl [0, 1, 2, 3, 4, 5] rfl)
        · have c40 := (pN_eqI (a := d) (b := 1) rfl rfl (by omega) (by omega)).mp c40
          refine lv_iconst (v := 5) F.1 F.2.1 d_MO_carried_43 (by decide) ?_
          refine lv_goto (tgt := 48) F.1 F.2.1 d_MO_carried_44 (by decide) ?_
          refine lv_imul F.1 F.2.1 d_MO_carried_48 ?_
          refine lv_iadd F.1 F.2.1 d_MO_carried_49 ?_
          rw [show nI z + nI (nme q k) * 5 = nI (z + nme q k * 5) from (by rw [show (5 : Int32) = nI 5 from rfl, pk_mul, nI_add])]
          refine lv_istore (lv' := [(4, .int (nI (z + nme q k * 5))), (5, .int (nI k)), (3, .int (nI d)), (0, .int (nI q)), (1, .int (nI a)), (2, .int (nI b))]) F.1 F.2.1 d_MO_carried_50 hl (by decide) rfl (fun ls hl => ?_)
          refine lv_iinc (v := (nI (d + 1))) (lv' := [(3, .int (nI (d + 1))), (4, .int (nI (z + nme q k * 5))), (5, .int (nI k)), (0, .int (nI q)), (1, .int (nI a)), (2, .int (nI b))]) F.1 F.2.1 d_MO_carried_52 hl (k := 2) rfl (nI_1 d) (by decide) rfl (fun ls hl => ?_)
          refine lv_iinc (v := (nI (k + 1))) (lv' := [(5, .int (nI (k + 1))), (3, .int (nI (d + 1))), (4, .int (nI (z + nme q k * 5))), (0, .int (nI q)), (1, .int (nI a)), (2, .int (nI b))]) F.1 F.2.1 d_MO_carried_55 hl (k := 2) rfl (nI_1 k) (by decide) rfl (fun ls hl => ?_)
          refine lv_goto (tgt := 14) F.1 F.2.1 d_MO_carried_58 (by decide) ?_
          exact ih (k + 1) (d + 1) (z + nme q k * 5) (by omega) (by omega) (by omega) (by rw [← hcar, hcs, if_pos c40]) ls (lv_sub hl [0, 1, 2, 3, 4, 5] rfl)
      · have c25 := (pN_eqI (a := d) (b := 3) rfl rfl (by omega) (by omega)).mp c25
        refine lv_iconst (v := 0) F.1 F.2.1 d_MO_carried_28 (by decide) ?_
        exact hret _ _ _ d_MO_carried_29 (by rw [← car_eq ha hb la lb h1 h2 lq, ← hcar, show car q (n + 1) k d z = 0 from if_pos c25]; rfl)
  refine lv_iload_n F.1 F.2.1 d_MO_carried_0 rfl (lv_at hl 2 rfl) ?_
  refine x_rd (x_S (n := 1) (As := [.int (nI b)]) F (c_MO_depth l G (nI b)) ok_MO_depth k531 ⟨Nat.le_of_ble_eq_true rfl, Nat.le_of_ble_eq_true rfl⟩ rfl rfl hK (trivial) rfl hl.1 rfl (Nat.le_of_ble_eq_true rfl) d_MO_carried_1 ⟨Nat.le_of_ble_eq_true rfl, Nat.le_of_ble_eq_true rfl⟩) ?_
  rw [pj_names_n b hb]
  refine lv_istore_n (lv' := [(3, .int (nI (nm b))), (0, .int (nI q)), (1, .int (nI a)), (2, .int (nI b))]) F.1 F.2.1 d_MO_carried_4 rfl hl (by decide) rfl (fun ls hl => ?_)
  refine lv_iload_n F.1 F.2.1 d_MO_carried_5 rfl (lv_at hl 3 rfl) ?_
  refine lv_istore (lv' := [(4, .int (nI b)), (3, .int (nI (nm b))), (0, .int (nI q)), (1, .int (nI a)), (2, .int (nI b))]) F.1 F.2.1 d_MO_carried_6 hl (by decide) rfl (fun ls hl => ?_)
  refine lv_iload_n F.1 F.2.1 d_MO_carried_8 rfl (lv_at hl 3 rfl) ?_
  refine x_rd (x_S (n := 1) (As := [.int (nI a)]) F (c_MO_depth l G (nI a)) ok_MO_depth k531 ⟨Nat.le_of_ble_eq_true rfl, Nat.le_of_ble_eq_true rfl⟩ rfl rfl hK (trivial) rfl hl.1 rfl (Nat.le_of_ble_eq_true rfl) d_MO_carried_9 ⟨Nat.le_of_ble_eq_true rfl, Nat.le_of_ble_eq_true rfl⟩) ?_
  rw [pj_names_n a ha]
  refine lv_istore (lv' := [(5, .int (nI (nm a))), (4, .int (nI b)), (3, .int (nI (nm b))), (0, .int (nI q)), (1, .int (nI a)), (2, .int (nI b))]) F.1 F.2.1 d_MO_carried_12 hl (by decide) rfl (fun ls hl => ?_)
  exact loop (nm q - nm a) (nm a) (nm b) b (by omega) (by omega) (by omega) rfl ls (lv_sub hl [0, 2, 1, 3, 4, 5] rfl)
end
section
/-! ===== the model: copy, change ===== -/
/-- what a step leaves: the work as o says, or as it was -/
def MS (G : x_G) (ad : Nat → Nat) (σ : Sg) (f : Nat → Int64) (ch : Nat → Bool) (o : Option (Nat → Int64)) : Option Value → Heap → Heap → Prop := fun r H H1 => r = some (.int (x_b o.isSome)) ∧ MO G ad σ (o.getD f) ch H1 ∧ x_off (mA ad) H H1
/-- the copy, as far as the loop over all paths has come -/
def cpK (f : Nat → Int64) (a b k : Nat) : Nat → Int64 := tCp f a b (min (max k a) (en a))
theorem inR {a q : Nat} (ha : a < 125) (la : lg a = true) (hq : q < 125) : (decide (q = a) || bl q a) = true ↔ (a ≤ q ∧ q < en a ∧ lg q = true) := by
  have e := en_le a ha la
  rw [Bool.or_eq_true, decide_eq_true_eq, bl_iff a ha la q hq]
  constructor
  · rintro (rfl | ⟨h1, h2, h3⟩)
    · exact ⟨Nat.le_refl _, e.1, la⟩
    · exact ⟨by omega, h3, h1⟩
  · rintro ⟨h1, h2, h3⟩
    rcases Nat.lt_or_ge a q with h | h
    · exact Or.inr ⟨h3, h, h2⟩
    · exact Or.inl (by omega)
theorem wp_pos {a b q : Nat} (ha : a < 125) (hb : b < 125) (la : lg a = true) (lb : lg b = true) (h1 : a ≤ q) (h2 : q < en a) (lq : lg q = true) (hn : nm q + nm b ≤ 3 + nm a) : wp q a b ≠ 0 ∧ wp q a b < 125 := by
  have h := pj_put_n ha hb la lb h1 h2 lq hn
  have := lg_25 h.2.2
  omega
theorem c_MO_copy (l : Launch) (G : x_G) (ad : Nat → Nat) (σ : Sg) (f : Nat → Int64) (ch : Nat → Bool) (i j : Nat) (hi : i < 125) (hj5 : j < 125) (li : lg i = true) (lj : lg j = true) (hf : tOk f) : Met l y_MO_copy (x_ws y_MO_copy b_MO_copy 4 (some .boolean)) (x_rm 2 0 0) (x_P G [.ref (ad 0), .int (nI i), .int (nI j)] (MO G ad σ f ch)) (x_Q (MS G ad σ f ch (tCopy f i j))) 0 0 (mA ad) := by
  refine x_wZ (by decide +kernel) (Nat.le_of_ble_eq_true rfl) (fun p e s m args below meth c F hK hP ls hl Q hret => ?_)
  have hl : lv_has ls 4 [(0, .ref (ad 0)), (1, .int (nI i)), (2, .int (nI j))] := hl
  have hS : va_S (mA ad) s.heap s.heap [] := va_S.rf
  obtain ⟨he1, he2⟩ := en_le i hi li
  have hpj := pa_lt j hj5
  have h25 := lg_25 li
  obtain ⟨hO, hp, ht, hh, hg, hw, hc, hj⟩ := id hP
  have no : mayB f i j = false → ∀ (pc : Nat) (ls : Array Slot), decode b_MO_copy pc = .ok (.ireturn, 1) → W p l e (x_rm 2 0 0) s m args below meth c s.heap [] 0 0 Q (F0 m pc ls [.int 0]) := fun hm pc ls hd => hret _ _ _ false _ _ _ _ hd rfl (by unfold tCopy; rw [if_neg (by rw [hm]; decide)]; exact ⟨rfl, hP, hS.off⟩) hS.2.2 (Nat.le_refl _) (Nat.le_refl _)
  have loop2 : mayB f i j = true → ∀ (n k : Nat), k + n = 125 → 1 ≤ k → ∀ (H : Heap) (locs : List Loc), MO G ad σ (cpK f i j k) ch H → va_S (mA ad) s.heap H locs → ∀ ls : Array Slot, lv_has ls 4 [(3, .int (nI k)), (0, .ref (ad 0)), (1, .int (nI i)), (2, .int (nI j))] → W p l e (x_rm 2 0 0) s m args below meth c H locs 0 0 Q (F0 m 110 ls []) := by
    intro hmay n
    obtain ⟨hfi, hfj, hpd, hco⟩ := mayB_ok hf li lj hmay
    induction n with
    | zero =>
      intro k hn hk1 H locs hP hS ls hl
      refine lv_iload_n F.1 F.2.1 d_MO_copy_110 rfl (lv_at hl 0 rfl) ?_
      refine lv_bipush (v := 125) F.1 F.2.1 d_MO_copy_111 (by decide) ?_
      refine lv_icmp_ge (tgt := 165) F.1 F.2.1 d_MO_copy_113 (by decide) (fun _ => ?_) (fun zq => absurd (pN_le (a := 125) (b := k) rfl rfl (by omega) (by omega) (by omega)) zq)
      refine lv_iconst (v := 1) F.1 F.2.1 d_MO_copy_165 (by decide) ?_
      refine hret _ _ _ true _ _ _ _ d_MO_copy_166 rfl ?_ hS.2.2 (Nat.le_refl _) (Nat.le_refl _)
      unfold tCopy
      rw [if_pos hmay]
      unfold cpK at hP
      rw [show min (max k i) (en i) = en i by omega] at hP
      exact ⟨rfl, hP, hS.off⟩
    | succ n ih =>
      intro k hn hk1 H locs hP hS ls hl
      obtain ⟨hO, hp, ht, hh, hg, hw, hc, hj⟩ := id hP
      have skip : (i ≤ k → k < en i → f k = wABS) → ∀ ls : Array Slot, lv_has ls 4 [(3, .int (nI k)), (0, .ref (ad 0)), (1, .int (nI i)), (2, .int (nI j))] → W p l e (x_rm 2 0 0) s m args below meth c H locs 0 0 Q (F0 m 159 ls []) := by
        intro hsk ls hl
        refine lv_iinc (v := (nI (k + 1))) (lv' := [(3, .int (nI (k + 1))), (0, .ref (ad 0)), (1, .int (nI i)), (2, .int (nI j))]) F.1 F.2.1 d_MO_copy_159 hl (k := 0) rfl (nI_1 k) (by decide) rfl (fun ls hl => ?_)
        refine lv_goto (tgt := 110) F.1 F.2.1 d_MO_copy_162 (by decide) ?_
        refine ih (k + 1) (by omega) (by omega) _ _ ?_ hS ls hl
        have e : cpK f i j (k + 1) = cpK f i j k := by
          unfold cpK
          by_cases h1 : i ≤ k ∧ k < en i
          · rw [show min (max (k + 1) i) (en i) = k + 1 by omega, show min (max k i) (en i) = k by omega]
            exact (tCp_n (hsk h1.1 h1.2)).symm
          · rw [show min (max (k + 1) i) (en i) = min (max k i) (en i) by omega]
        rw [e]
        exact hP
      have k129 : (decide (k = i) || bl k i) = true → ∀ ls : Array Slot, lv_has ls 4 [(3, .int (nI k)), (0, .ref (ad 0)), (1, .int (nI i)), (2, .int (nI j))] → W p l e (x_rm 2 0 0) s m args below meth c H locs 0 0 Q (F0 m 129 ls []) := by
        intro hin ls hl
        obtain ⟨r1, r2, r3⟩ := (inR hi li (show k < 125 by omega)).mp hin
        have hcp : cpK f i j k = tCp f i j k := by unfold cpK; rw [show min (max k i) (en i) = k by omega]
        have hsrc : cpK f i j k k = f k := by rw [hcp]; exact tCp_src hco (by omega) r1 r2
        refine lv_aload_n F.1 F.2.1 d_MO_copy_129 rfl (lv_at hl 1 rfl) ?_
        refine x_get F hK hO rfl i_MO 5 (by decide) k484 rfl rfl d_MO_copy_130 ?_
        refine lv_iload_n F.1 F.2.1 d_MO_copy_133 rfl (lv_at hl 0 rfl) ?_
        refine x_laldN F hK hw (by decide) (by omega) d_MO_copy_134 ?_
        rw [hsrc]
        refine x_cst F k478 d_MO_copy_135 ?_
        refine x_leq (tgt := 159) F d_MO_copy_138 d_MO_copy_139 (by decide) (fun c138 => ?_) (fun c138 => ?_)
        · exact skip (fun _ _ => c138) ls hl
        · obtain ⟨lk, nk⟩ := hco.2.2.2.2.2 k r1 r2 c138
          have hwp := wp_pos hi hj5 li lj r1 r2 lk nk
          refine lv_aload_n F.1 F.2.1 d_MO_copy_142 rfl (lv_at hl 1 rfl) ?_
          refine x_get F hK hO rfl i_MO 5 (by decide) k484 rfl rfl d_MO_copy_143 ?_
          refine lv_iload_n F.1 F.2.1 d_MO_copy_146 rfl (lv_at hl 0 rfl) ?_
          refine lv_iload_n F.1 F.2.1 d_MO_copy_147 rfl (lv_at hl 2 rfl) ?_
          refine lv_iload_n F.1 F.2.1 d_MO_copy_148 rfl (lv_at hl 3 rfl) ?_
          refine x_rd (x_S (n := 3) (As := [.int (nI k), .int (nI i), .int (nI j)]) F (c_MO_carried l G k i j (by omega) hi hj5 li lj lk r1 r2) ok_MO_carried k558 ⟨Nat.le_of_ble_eq_true rfl, Nat.le_of_ble_eq_true rfl⟩ rfl rfl hK (trivial) rfl hl.1 rfl (Nat.le_of_ble_eq_true rfl) d_MO_copy_149 ⟨Nat.le_of_ble_eq_true rfl, Nat.le_of_ble_eq_true rfl⟩) ?_
          rw [if_pos nk]
          refine lv_aload_n F.1 F.2.1 d_MO_copy_152 rfl (lv_at hl 1 rfl) ?_
          refine x_get F hK hO rfl i_MO 5 (by decide) k484 rfl rfl d_MO_copy_153 ?_
          refine lv_iload_n F.1 F.2.1 d_MO_copy_156 rfl (lv_at hl 0 rfl) ?_
          refine x_laldN F hK hw (by decide) (by omega) d_MO_copy_157 ?_
          rw [hsrc]
          refine x_lastN F hK hw (by decide) hwp.2 hS ⟨5, by omega, rfl⟩ d_MO_copy_158 (fun H1 locs hw hz1 ho1 hS => ?_)
          have hO := va_at.kept hO (ho1 _ (hj.ne 0 5))
          have hp := va_at.kept hp (ho1 _ (hj.ne 1 5))
          have ht := va_at.kept ht (ho1 _ (hj.ne 2 5))
          have hh := va_at.kept hh (ho1 _ (hj.ne 3 5))
          have hg := va_at.kept hg (ho1 _ (hj.ne 4 5))
          have hc := va_at.kept hc (ho1 _ (hj.ne 6 5))
          refine lv_iinc (v := (nI (k + 1))) (lv' := [(3, .int (nI (k + 1))), (0, .ref (ad 0)), (1, .int (nI i)), (2, .int (nI j))]) F.1 F.2.1 d_MO_copy_159 hl (k := 0) rfl (nI_1 k) (by decide) rfl (fun ls hl => ?_)
          refine lv_goto (tgt := 110) F.1 F.2.1 d_MO_copy_162 (by decide) ?_
          refine ih (k + 1) (by omega) (by omega) _ _ ⟨hO, hp, ht, hh, hg, ?_, hc, hj⟩ hS ls hl
          have e : cpK f i j (k + 1) = vp_updL (cpK f i j k) (wp k i j) (f k) := by
            rw [hcp, tCp_s hco r1 r2 c138]
            unfold cpK
            rw [show min (max (k + 1) i) (en i) = k + 1 by omega]
          rw [e]
          exact hw
      refine lv_iload_n F.1 F.2.1 d_MO_copy_110 rfl (lv_at hl 0 rfl) ?_
      refine lv_bipush (v := 125) F.1 F.2.1 d_MO_copy_111 (by decide) ?_
      refine lv_icmp_ge (tgt := 165) F.1 F.2.1 d_MO_copy_113 (by decide) (fun zq => absurd zq (pN_nle (a := 125) (b := k) rfl rfl (by omega) (by omega) (by omega))) (fun _ => ?_)
      refine lv_iload_n F.1 F.2.1 d_MO_copy_116 rfl (lv_at hl 0 rfl) ?_
      refine lv_iload_n F.1 F.2.1 d_MO_copy_117 rfl (lv_at hl 2 rfl) ?_
      refine lv_icmp_eq (tgt := 129) F.1 F.2.1 d_MO_copy_118 (by decide) (fun c118 => ?_) (fun c118 => ?_)
      · have c118 := (pN_eqI (a := k) (b := i) rfl rfl (by omega) (by omega)).mp c118
        exact k129 (by rw [decide_eq_true c118]; rfl) ls hl
      · have c118 := mt (pN_eqI (a := k) (b := i) rfl rfl (by omega) (by omega)).mpr c118
        refine lv_iload_n F.1 F.2.1 d_MO_copy_121 rfl (lv_at hl 0 rfl) ?_
        refine lv_iload_n F.1 F.2.1 d_MO_copy_122 rfl (lv_at hl 2 rfl) ?_
        refine x_rd (x_S (n := 2) (As := [.int (nI k), .int (nI i)]) F (c_MO_below l G (nI k) (nI i)) ok_MO_below k548 ⟨Nat.le_of_ble_eq_true rfl, Nat.le_of_ble_eq_true rfl⟩ rfl rfl hK (trivial) rfl hl.1 rfl (Nat.le_of_ble_eq_true rfl) d_MO_copy_123 ⟨Nat.le_of_ble_eq_true rfl, Nat.le_of_ble_eq_true rfl⟩) ?_
        rw [mo_below_n (show k < 125 by omega) hi]
        refine x_beq (tgt := 159) F d_MO_copy_126 (by decide) (fun c126 => ?_) (fun c126 => ?_)
        · exact skip (fun h1 h2 => by
            by_cases e3 : f k = wABS
            · exact e3
            · have := (bl_iff i hi li k (by omega)).mpr ⟨(hf.2 k (by omega) (by omega) e3).1, by omega, h2⟩
              rw [c126] at this; cases this) ls hl
        · exact k129 (by rw [c126, Bool.or_true]) ls hl
  have loop1 : f i ≠ wABS → f j = wABS → f (pa j) = wDIR → ¬ (i ≤ j ∧ j < en i) → ∀ (n k : Nat), k + n = 125 → 1 ≤ k → (∀ q, i ≤ q → q < en i → q < k → f q ≠ wABS → nm q + nm j ≤ 3 + nm i) → ∀ ls : Array Slot, lv_has ls 4 [(3, .int (nI k)), (0, .ref (ad 0)), (1, .int (nI i)), (2, .int (nI j))] → W p l e (x_rm 2 0 0) s m args below meth c s.heap [] 0 0 Q (F0 m 59 ls []) := by
    intro a1 a2 a3 a4 n
    induction n with
    | zero =>
      intro k hn hk1 hq ls hl
      refine lv_iload_n F.1 F.2.1 d_MO_copy_59 rfl (lv_at hl 0 rfl) ?_
      refine lv_bipush (v := 125) F.1 F.2.1 d_MO_copy_60 (by decide) ?_
      refine lv_icmp_ge (tgt := 108) F.1 F.2.1 d_MO_copy_62 (by decide) (fun _ => ?_) (fun zq => absurd (pN_le (a := 125) (b := k) rfl rfl (by omega) (by omega) (by omega)) zq)
      refine lv_iconst (v := 1) F.1 F.2.1 d_MO_copy_108 (by decide) ?_
      refine lv_istore_n (lv' := [(3, .int 1), (0, .ref (ad 0)), (1, .int (nI i)), (2, .int (nI j))]) F.1 F.2.1 d_MO_copy_109 rfl hl (by decide) rfl (fun ls hl => ?_)
      refine loop2 ?_ 124 1 rfl (Nat.le_refl _) _ _ ?_ hS ls hl
      · unfold mayB
        rw [decide_eq_false a1, decide_eq_true a2, decide_eq_true a3, decide_eq_false a4, (fitB_iff he2).mpr (fun q q1 q2 q3 => hq q q1 q2 (by omega) q3)]
        rfl
      · unfold cpK
        rw [show min (max 1 i) (en i) = i by omega, tCp_0]
        exact hP
    | succ n ih =>
      intro k hn hk1 hq ls hl
      have nx1 : (i ≤ k → k < en i → f k ≠ wABS → nm k + nm j ≤ 3 + nm i) → ∀ ls : Array Slot, lv_has ls 4 [(3, .int (nI k)), (0, .ref (ad 0)), (1, .int (nI i)), (2, .int (nI j))] → W p l e (x_rm 2 0 0) s m args below meth c s.heap [] 0 0 Q (F0 m 102 ls []) := by
        intro hk ls hl
        refine lv_iinc (v := (nI (k + 1))) (lv' := [(3, .int (nI (k + 1))), (0, .ref (ad 0)), (1, .int (nI i)), (2, .int (nI j))]) F.1 F.2.1 d_MO_copy_102 hl (k := 0) rfl (nI_1 k) (by decide) rfl (fun ls hl => ?_)
        refine lv_goto (tgt := 59) F.1 F.2.1 d_MO_copy_105 (by decide) ?_
        exact ih (k + 1) (by omega) (by omega) (fun q q1 q2 q3 q4 => by rcases Nat.lt_succ_iff_lt_or_eq.mp q3 with h | rfl; exact hq q q1 q2 h q4; exact hk q1 q2 q4) ls hl
      have k78 : (decide (k = i) || bl k i) = true → ∀ ls : Array Slot, lv_has ls 4 [(3, .int (nI k)), (0, .ref (ad 0)), (1, .int (nI i)), (2, .int (nI j))] → W p l e (x_rm 2 0 0) s m args below meth c s.heap [] 0 0 Q (F0 m 78 ls []) := by
        intro hin ls hl
        obtain ⟨r1, r2, r3⟩ := (inR hi li (show k < 125 by omega)).mp hin
        refine lv_aload_n F.1 F.2.1 d_MO_copy_78 rfl (lv_at hl 1 rfl) ?_
        refine x_get F hK hO rfl i_MO 5 (by decide) k484 rfl rfl d_MO_copy_79 ?_
        refine lv_iload_n F.1 F.2.1 d_MO_copy_82 rfl (lv_at hl 0 rfl) ?_
        refine x_laldN F hK hw (by decide) (by omega) d_MO_copy_83 ?_
        refine x_cst F k478 d_MO_copy_84 ?_
        refine x_leq (tgt := 102) F d_MO_copy_87 d_MO_copy_88 (by decide) (fun c87 => ?_) (fun c87 => ?_)
        · exact nx1 (fun _ _ h => absurd c87 h) ls hl
        · refine lv_iload_n F.1 F.2.1 d_MO_copy_91 rfl (lv_at hl 0 rfl) ?_
          refine lv_iload_n F.1 F.2.1 d_MO_copy_92 rfl (lv_at hl 2 rfl) ?_
          refine lv_iload_n F.1 F.2.1 d_MO_copy_93 rfl (lv_at hl 3 rfl) ?_
          refine x_rd (x_S (n := 3) (As := [.int (nI k), .int (nI i), .int (nI j)]) F (c_MO_carried l G k i j (by omega) hi hj5 li lj r3 r1 r2) ok_MO_carried k558 ⟨Nat.le_of_ble_eq_true rfl, Nat.le_of_ble_eq_true rfl⟩ rfl rfl hK (trivial) rfl hl.1 rfl (Nat.le_of_ble_eq_true rfl) d_MO_copy_94 ⟨Nat.le_of_ble_eq_true rfl, Nat.le_of_ble_eq_true rfl⟩) ?_
          by_cases hfit : nm k + nm j ≤ 3 + nm i
          · rw [if_pos hfit]
            have hwp := wp_pos hi hj5 li lj r1 r2 r3 hfit
            refine lv_if_ne (tgt := 102) F.1 F.2.1 d_MO_copy_97 (by decide) (fun _ => ?_) (fun zq => absurd zq (pN_neq (a := wp k i j) (b := 0) rfl rfl hwp.1 (by omega) (by omega)))
            exact nx1 (fun _ _ _ => hfit) ls hl
          · rw [if_neg hfit]
            refine lv_if_ne (tgt := 102) F.1 F.2.1 d_MO_copy_97 (by decide) (fun zq => absurd (pN_eq (a := 0) (b := 0) rfl rfl rfl (by omega) (by omega)) zq) (fun _ => ?_)
            refine lv_iconst (v := 0) F.1 F.2.1 d_MO_copy_100 (by decide) ?_
            exact no (by unfold mayB; rw [fitB_f he2 r1 r2 c87 hfit]; simp) _ _ d_MO_copy_101
      refine lv_iload_n F.1 F.2.1 d_MO_copy_59 rfl (lv_at hl 0 rfl) ?_
      refine lv_bipush (v := 125) F.1 F.2.1 d_MO_copy_60 (by decide) ?_
      refine lv_icmp_ge (tgt := 108) F.1 F.2.1 d_MO_copy_62 (by decide) (fun zq => absurd zq (pN_nle (a := 125) (b := k) rfl rfl (by omega) (by omega) (by omega))) (fun _ => ?_)
      refine lv_iload_n F.1 F.2.1 d_MO_copy_65 rfl (lv_at hl 0 rfl) ?_
      refine lv_iload_n F.1 F.2.1 d_MO_copy_66 rfl (lv_at hl 2 rfl) ?_
      refine lv_icmp_eq (tgt := 78) F.1 F.2.1 d_MO_copy_67 (by decide) (fun c67 => ?_) (fun c67 => ?_)
      · have c67 := (pN_eqI (a := k) (b := i) rfl rfl (by omega) (by omega)).mp c67
        exact k78 (by rw [decide_eq_true c67]; rfl) ls hl
      · have c67 := mt (pN_eqI (a := k) (b := i) rfl rfl (by omega) (by omega)).mpr c67
        refine lv_iload_n F.1 F.2.1 d_MO_copy_70 rfl (lv_at hl 0 rfl) ?_
        refine lv_iload_n F.1 F.2.1 d_MO_copy_71 rfl (lv_at hl 2 rfl) ?_
        refine x_rd (x_S (n := 2) (As := [.int (nI k), .int (nI i)]) F (c_MO_below l G (nI k) (nI i)) ok_MO_below k548 ⟨Nat.le_of_ble_eq_true rfl, Nat.le_of_ble_eq_true rfl⟩ rfl rfl hK (trivial) rfl hl.1 rfl (Nat.le_of_ble_eq_true rfl) d_MO_copy_72 ⟨Nat.le_of_ble_eq_true rfl, Nat.le_of_ble_eq_true rfl⟩) ?_
        rw [mo_below_n (show k < 125 by omega) hi]
        refine x_beq (tgt := 102) F d_MO_copy_75 (by decide) (fun c75 => ?_) (fun c75 => ?_)
        · exact nx1 (fun h1 h2 h3 => by
            have := (bl_iff i hi li k (by omega)).mpr ⟨(hf.2 k (by omega) (by omega) h3).1, by omega, h2⟩
            rw [c75] at this; cases this) ls hl
        · exact k78 (by rw [c75, Bool.or_true]) ls hl
  refine lv_aload_n F.1 F.2.1 d_MO_copy_0 rfl (lv_at hl 0 rfl) ?_
  refine x_get F hK hO rfl i_MO 5 (by decide) k484 rfl rfl d_MO_copy_1 ?_
  refine lv_iload_n F.1 F.2.1 d_MO_copy_4 rfl (lv_at hl 1 rfl) ?_
  refine x_laldN F hK hw (by decide) (by omega) d_MO_copy_5 ?_
  refine x_cst F k478 d_MO_copy_6 ?_
  refine x_leq (tgt := 55) F d_MO_copy_9 d_MO_copy_10 (by decide) (fun c9 => ?_) (fun c9 => ?_)
  · refine lv_iconst (v := 0) F.1 F.2.1 d_MO_copy_55 (by decide) ?_
    exact no (by unfold mayB; rw [decide_eq_true c9]; rfl) _ _ d_MO_copy_56
  · refine lv_aload_n F.1 F.2.1 d_MO_copy_13 rfl (lv_at hl 0 rfl) ?_
    refine x_get F hK hO rfl i_MO 5 (by decide) k484 rfl rfl d_MO_copy_14 ?_
    refine lv_iload_n F.1 F.2.1 d_MO_copy_17 rfl (lv_at hl 2 rfl) ?_
    refine x_laldN F hK hw (by decide) (by omega) d_MO_copy_18 ?_
    refine x_cst F k478 d_MO_copy_19 ?_
    refine x_lne (tgt := 55) F d_MO_copy_22 d_MO_copy_23 (by decide) (fun c22 => ?_) (fun c22 => ?_)
    · refine lv_iconst (v := 0) F.1 F.2.1 d_MO_copy_55 (by decide) ?_
      exact no (by unfold mayB; rw [decide_eq_false c22]; simp) _ _ d_MO_copy_56
    · refine lv_aload_n F.1 F.2.1 d_MO_copy_26 rfl (lv_at hl 0 rfl) ?_
      refine x_get F hK hO rfl i_MO 5 (by decide) k484 rfl rfl d_MO_copy_27 ?_
      refine lv_iload_n F.1 F.2.1 d_MO_copy_30 rfl (lv_at hl 2 rfl) ?_
      refine x_rd (x_S (n := 1) (As := [.int (nI j)]) F (c_MO_above l G (nI j)) ok_MO_above k555 ⟨Nat.le_of_ble_eq_true rfl, Nat.le_of_ble_eq_true rfl⟩ rfl rfl hK (trivial) rfl hl.1 rfl (Nat.le_of_ble_eq_true rfl) d_MO_copy_31 ⟨Nat.le_of_ble_eq_true rfl, Nat.le_of_ble_eq_true rfl⟩) ?_
      rw [mo_above_n j hj5]
      refine x_laldN F hK hw (by decide) (by omega) d_MO_copy_34 ?_
      refine x_cst F k477 d_MO_copy_35 ?_
      refine x_lne (tgt := 55) F d_MO_copy_38 d_MO_copy_39 (by decide) (fun c38 => ?_) (fun c38 => ?_)
      · refine lv_iconst (v := 0) F.1 F.2.1 d_MO_copy_55 (by decide) ?_
        exact no (by unfold mayB; rw [decide_eq_false c38]; simp) _ _ d_MO_copy_56
      · refine lv_iload_n F.1 F.2.1 d_MO_copy_42 rfl (lv_at hl 2 rfl) ?_
        refine lv_iload_n F.1 F.2.1 d_MO_copy_43 rfl (lv_at hl 1 rfl) ?_
        refine lv_icmp_eq (tgt := 55) F.1 F.2.1 d_MO_copy_44 (by decide) (fun c44 => ?_) (fun c44 => ?_)
        · have c44 := (pN_eqI (a := j) (b := i) rfl rfl (by omega) (by omega)).mp c44
          refine lv_iconst (v := 0) F.1 F.2.1 d_MO_copy_55 (by decide) ?_
          exact no (by unfold mayB; rw [decide_eq_true (show i ≤ j ∧ j < en i by omega)]; simp) _ _ d_MO_copy_56
        · have c44 := mt (pN_eqI (a := j) (b := i) rfl rfl (by omega) (by omega)).mpr c44
          refine lv_iload_n F.1 F.2.1 d_MO_copy_47 rfl (lv_at hl 2 rfl) ?_
          refine lv_iload_n F.1 F.2.1 d_MO_copy_48 rfl (lv_at hl 1 rfl) ?_
          refine x_rd (x_S (n := 2) (As := [.int (nI j), .int (nI i)]) F (c_MO_below l G (nI j) (nI i)) ok_MO_below k548 ⟨Nat.le_of_ble_eq_true rfl, Nat.le_of_ble_eq_true rfl⟩ rfl rfl hK (trivial) rfl hl.1 rfl (Nat.le_of_ble_eq_true rfl) d_MO_copy_49 ⟨Nat.le_of_ble_eq_true rfl, Nat.le_of_ble_eq_true rfl⟩) ?_
          rw [mo_below_n hj5 hi]
          refine x_beq (tgt := 57) F d_MO_copy_52 (by decide) (fun c52 => ?_) (fun c52 => ?_)
          · refine lv_iconst (v := 1) F.1 F.2.1 d_MO_copy_57 (by decide) ?_
            refine lv_istore_n (lv' := [(3, .int 1), (0, .ref (ad 0)), (1, .int (nI i)), (2, .int (nI j))]) F.1 F.2.1 d_MO_copy_58 rfl hl (by decide) rfl (fun ls hl => ?_)
            exact loop1 c9 c22 c38 (fun z => by have := (bl_iff i hi li j hj5).mpr ⟨lj, by omega, z.2⟩; rw [c52] at this; cases this) 124 1 rfl (Nat.le_refl _) (fun q q1 _ q3 => by omega) ls hl
          · refine lv_iconst (v := 0) F.1 F.2.1 d_MO_copy_55 (by decide) ?_
            have hb := (bl_iff i hi li j hj5).mp c52
            exact no (by unfold mayB; rw [decide_eq_true (show i ≤ j ∧ j < en i by omega)]; simp) _ _ d_MO_copy_56
end
